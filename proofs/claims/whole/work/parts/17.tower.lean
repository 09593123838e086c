/-! Wide: comparing, the gap; the tower. -/
theorem lb_div {N j : Nat} (hj : j < 7) : N / 2 ^ (30 * j) = N / 2 ^ (30 * (j + 1)) * 2 ^ 30 + lb N j := by
  unfold lb
  rw [if_pos hj, p30, ← Nat.div_div_eq_div_mul]
  have := Nat.div_add_mod (N / 2 ^ (30 * j)) (2 ^ 30)
  omega
theorem wl_eq {N M j : Nat} (hj : j < 7) (h : N / 2 ^ (30 * (j + 1)) = M / 2 ^ (30 * (j + 1))) (hl : lb N j = lb M j) : N / 2 ^ (30 * j) = M / 2 ^ (30 * j) := by
  rw [lb_div hj, lb_div (N := M) hj, h, hl]
theorem wl_lt {N M j : Nat} (hj : j < 7) (h : N / 2 ^ (30 * (j + 1)) = M / 2 ^ (30 * (j + 1))) (hl : lb N j < lb M j) : N < M := by
  refine Nat.not_le.mp fun q => ?_
  have h1 : M / 2 ^ (30 * j) ≤ N / 2 ^ (30 * j) := Nat.div_le_div_right q
  rw [lb_div hj, lb_div (N := N) hj, h] at h1
  omega
theorem ws_top {N : Nat} (h : N < 2 ^ 210) : N / 2 ^ (30 * 7) = 0 := Nat.div_eq_of_lt h
/-- the borrow, and a limb of a difference -/
def bw (G L j : Nat) : Nat := if G % 2 ^ (30 * j) < L % 2 ^ (30 * j) then 1 else 0
theorem bw_step {G L j : Nat} (hj : j < 7) : bw G L (j + 1) = if lb G j < lb L j + bw G L j then 1 else 0 := by
  unfold bw
  rw [mod30 G j hj, mod30 L j hj]
  have hp : 0 < 2 ^ (30 * j) := Nat.pow_pos (by decide)
  have h1 : G % 2 ^ (30 * j) < 2 ^ (30 * j) := Nat.mod_lt _ hp
  have h2 : L % 2 ^ (30 * j) < 2 ^ (30 * j) := Nat.mod_lt _ hp
  generalize 2 ^ (30 * j) = q at *
  generalize G % q = a at *
  generalize L % q = b at *
  generalize lb G j = x at *
  generalize lb L j = y at *
  rcases Nat.lt_trichotomy x y with h | h | h
  · have h3 : q * x + q ≤ q * y := by rw [← Nat.mul_succ]; exact Nat.mul_le_mul_left q h
    rw [if_pos (by omega)]
    split <;> rw [if_pos (by omega)]
  · subst h
    by_cases h3 : a < b
    · rw [if_pos (by omega), if_pos h3, if_pos (by omega)]
    · rw [if_neg (by omega), if_neg h3, if_neg (by omega)]
  · have h3 : q * y + q ≤ q * x := by rw [← Nat.mul_succ]; exact Nat.mul_le_mul_left q h
    rw [if_neg (by omega)]
    split <;> rw [if_neg (by omega)]
theorem gap_limb {G L j : Nat} (hj : j < 7) (h : L ≤ G) : lb (G - L) j = (lb G j + 2 ^ 30 - lb L j - bw G L j) % 2 ^ 30 := by
  have hp : 0 < 2 ^ (30 * j) := Nat.pow_pos (by decide)
  have e1 : lb (G - L) j = (G - L) / 2 ^ (30 * j) % 2 ^ 30 := by unfold lb; rw [if_pos hj]
  have e2 : lb G j = G / 2 ^ (30 * j) % 2 ^ 30 := by unfold lb; rw [if_pos hj]
  have e3 : lb L j = L / 2 ^ (30 * j) % 2 ^ 30 := by unfold lb; rw [if_pos hj]
  have g1 : G = 2 ^ (30 * j) * (G / 2 ^ (30 * j)) + G % 2 ^ (30 * j) := (Nat.div_add_mod _ _).symm
  have l1 : L = 2 ^ (30 * j) * (L / 2 ^ (30 * j)) + L % 2 ^ (30 * j) := (Nat.div_add_mod _ _).symm
  have hd : (G - L) / 2 ^ (30 * j) = G / 2 ^ (30 * j) - L / 2 ^ (30 * j) - bw G L j ∧ L / 2 ^ (30 * j) + bw G L j ≤ G / 2 ^ (30 * j) := by
    have h1 : G % 2 ^ (30 * j) < 2 ^ (30 * j) := Nat.mod_lt _ hp
    have h2 : L % 2 ^ (30 * j) < 2 ^ (30 * j) := Nat.mod_lt _ hp
    have hle : L / 2 ^ (30 * j) ≤ G / 2 ^ (30 * j) := Nat.div_le_div_right h
    unfold bw
    generalize hq : 2 ^ (30 * j) = q at *
    generalize G / q = A at *
    generalize L / q = B at *
    generalize G % q = a at *
    generalize L % q = b at *
    have hm : q * B ≤ q * A := Nat.mul_le_mul_left q hle
    have hs : q * (A - B) = q * A - q * B := Nat.mul_sub q A B
    split
    · rename_i h3
      have h4 : B < A := by
        rcases Nat.lt_or_ge B A with h4 | h4
        · exact h4
        · have : A = B := by omega
          subst this
          omega
      have h5 : q * (A - B) = q * (A - B - 1) + q := by
        rw [← Nat.mul_succ]; congr 1; omega
      refine ⟨?_, by omega⟩
      rw [show G - L = (q + a - b) + q * (A - B - 1) by omega, Nat.add_mul_div_left _ _ hp, Nat.div_eq_of_lt (by omega)]
      omega
    · refine ⟨?_, by omega⟩
      rw [show G - L = (a - b) + q * (A - B) by omega, Nat.add_mul_div_left _ _ hp, Nat.div_eq_of_lt (by omega)]
      omega
  rw [e1, e2, e3, hd.1]
  have hb : bw G L j ≤ 1 := by unfold bw; split <;> omega
  have hd2 := hd.2
  generalize G / 2 ^ (30 * j) = A at *
  generalize L / 2 ^ (30 * j) = B at *
  generalize bw G L j = c at *
  omega
theorem bw_0 (G L : Nat) : bw G L 0 = 0 := by
  unfold bw
  rw [show 2 ^ (30 * 0) = 1 from rfl, Nat.mod_one, Nat.mod_one]
  rfl
theorem bw_le (G L j : Nat) : bw G L j ≤ 1 := by unfold bw; split <;> omega
theorem gap_sub {g y c : Nat} (h : y + c ≤ 2 ^ 31) : lN g - lN y - lN c = lN (g + 2 ^ 64 - y - c) := by
  rw [wb_mod g, show lN (g % 2 ^ 64) = lN (g + 2 ^ 64) by rw [wb_mod (g + 2 ^ 64), Nat.add_mod_right], lN_sub (by omega), lN_sub (by omega)]
theorem gap_mask {g y c : Nat} (hg : g < 2 ^ 30) (h : y + c ≤ 2 ^ 30) : lN (g + 2 ^ 64 - y - c) &&& 1073741823 = lN ((g + 2 ^ 30 - y - c) % 2 ^ 30) := by
  rw [wb_mod (g + 2 ^ 64 - y - c), mask30 (Nat.mod_lt _ (by decide))]
  congr 1
  omega
theorem gap_neg {g y c : Nat} (hg : g < 2 ^ 30) (h : y + c ≤ 2 ^ 30) : lN (g + 2 ^ 64 - y - c) < 0 ↔ g < y + c := by
  rw [Int64.lt_iff_toInt_lt, wb_mod (g + 2 ^ 64 - y - c), lN_ti (Nat.mod_lt _ (by decide)), Int64.toInt_zero]
  by_cases h2 : g < y + c
  · rw [show (g + 2 ^ 64 - y - c) % 2 ^ 64 = g + 2 ^ 64 - y - c by omega, if_neg (by omega)]
    omega
  · rw [show (g + 2 ^ 64 - y - c) % 2 ^ 64 = g - y - c by omega, if_pos (by omega)]
    omega
theorem htN_mono (tw : Nat → Nat) (j : Nat) : ∀ d, htN tw j ≤ htN tw (j + d)
  | 0 => Nat.le_refl _
  | d + 1 => Nat.le_trans (htN_mono tw j d) (Nat.le_add_right _ _)
theorem unN_stop {tw : Nat → Nat} {x : Int32} {j : Nat} (h : Int32.toInt64 x < lN (htN tw (j + 1))) : ∀ d, j + 1 + d ≤ 60 → unN tw x (j + 1 + d) = unN tw x j
  | 0, _ => by
    show unN tw x (j + 1) = _
    rw [unN, if_pos h]
  | d + 1, hd => by
    show unN tw x (j + 1 + d + 1) = _
    have h1 := htN_mono tw (j + 1) (d + 1)
    have h2 := htN_lt tw (j + 1 + d + 1)
    have h3 := htN_lt tw (j + 1)
    rw [unN, if_pos, unN_stop h d (by omega)]
    refine Int64.lt_iff_toInt_lt.mpr ?_
    have h4 := Int64.lt_iff_toInt_lt.mp h
    rw [pk_lT (by omega)] at h4 ⊢
    have h5 : htN tw (j + 1) ≤ htN tw (j + 1 + d + 1) := h1
    omega
theorem un_lt {x : Int32} {n : Nat} (hn : n < 2 ^ 31) : x < nI n ↔ Int32.toInt64 x < lN n := by
  rw [Int32.lt_iff_toInt_lt, Int64.lt_iff_toInt_lt, nI_toInt hn, pk_lT (by omega), Int32.toInt_toInt64]
theorem kd_above {v : Nat} (h : isB v = false) : lN (v % 4) = if isE v = true then 1 else 0 := by
  rw [kd4 h rfl]
  cases isE v <;> rfl
theorem sg_above {v : Nat} (h : isB v = false) : sgI v = nI (eig v) := by
  unfold sgI
  rw [if_neg (by rw [h]; decide)]
theorem fI_above {v : Nat} (h : isB v = false) : fI v = nI (fN (eig v)) := by
  unfold fI
  rw [if_neg (by rw [h]; decide)]
theorem up_6 (f : Nat → Nat) (p v : Nat) (k : Nat) : (if k = p then nI v else nI (f k)) = nI (up f p v k) := by
  unfold up
  split <;> rfl
theorem up_7 (f : Nat → Nat) (p v : Nat) (k : Nat) : (if k = p then nI (fN (eig v)) else nI (fN (eig (f k)))) = nI (fN (eig (up f p v k))) := by
  unfold up
  split <;> rfl
theorem ht_push (f : Nat → Nat) (n v : Nat) : htN (up f n v) (n + 1) = htN f n + fN (eig v) := by
  show htN (up f n v) n + fN (eig (up f n v n)) = _
  rw [htN_up f n v n (Nat.le_refl n), up_s]
set_option maxRecDepth 20000 in
theorem c_X6_isLess (l : Launch) (D : va_G) (T : Nat → ClassId) (b0 f0 b1 f1 N M : Nat) (hN : N < 2 ^ 210) (hM : M < 2 ^ 210) : Hm l yX6_isLess cX6_isLess 3 (some FieldType.boolean) 0 0 0 D T [.ref b0, .ref b1] [(b0, .inr (2, [.ref f0])), (f0, .inl (T 1, 7, .inr (.inl (fun i => lN (lb N i))))), (b1, .inr (2, [.ref f1])), (f1, .inl (T 1, 7, .inr (.inl (fun i => lN (lb M i)))))] (some (.int (bI (decide (N < M))))) (fun _ : Unit => [(b0, .inr (2, [.ref f0])), (f0, .inl (T 1, 7, .inr (.inl (fun i => lN (lb N i))))), (b1, .inr (2, [.ref f1])), (f1, .inl (T 1, 7, .inr (.inl (fun i => lN (lb M i)))))]) := by
  refine Hm.of (by decide) (Nat.le_of_ble_eq_true rfl) ?_
  intro zp ze s zm args below zmeth zc hx hb hr hml hown hin hts hlocks A hA hP hK hD hS ls hl
  have hl : lv_has ls 3 [(0, .ref b0), (1, .ref b1)] := hl
  refine lv_bipush (v := 6) hx hb dX6_isLess_0 (by decide) ?_
  refine zf_i (x' := nI 7 - 1) (by decide) ?_
  refine lv_istore_n (lv' := [(2, .int (nI 7 - 1)), (0, .ref b0), (1, .ref b1)]) hx hb dX6_isLess_2 rfl hl (by decide) rfl (fun ls hl => ?_)
  have lp : ∀ (n : Nat) , n ≤ 7 → N / 2 ^ (30 * n) = M / 2 ^ (30 * n) → ∀ (H : Heap) (locs : List Loc), va_P D zcl [(b0, .inr (2, [.ref f0])), (f0, .inl (T 1, 7, .inr (.inl (fun i => lN (lb N i))))), (b1, .inr (2, [.ref f1])), (f1, .inl (T 1, 7, .inr (.inl (fun i => lN (lb M i)))))] H → va_D A [(b0, .inr (2, [.ref f0])), (f0, .inl (T 1, 7, .inr (.inl (fun i => lN (lb N i))))), (b1, .inr (2, [.ref f1])), (f1, .inl (T 1, 7, .inr (.inl (fun i => lN (lb M i)))))] → va_S A s.heap H locs → ∀ ls : Array Slot, lv_has ls 3 [(0, .ref b0), (1, .ref b1), (2, .int (nI n - 1))] → W zp l ze (zR 0 0 0) s zm args below zmeth zc H locs 0 0 (MQ below (zQh D A (some (.int (bI (decide (N < M))))) (fun _ : Unit => [(b0, .inr (2, [.ref f0])), (f0, .inl (T 1, 7, .inr (.inl (fun i => lN (lb N i))))), (b1, .inr (2, [.ref f1])), (f1, .inl (T 1, 7, .inr (.inl (fun i => lN (lb M i)))))])) args s 0 0 A) (F0 zm 3 ls []) := by
    intro n
    induction n with
    | zero =>
      intro  hn he H locs hP hD hS ls hl
      refine lv_iload_n hx hb dX6_isLess_3 rfl (lv_at hl 2 rfl) ?_
      refine lv_if_lt (tgt := 51) hx hb dX6_isLess_4 (by decide) (fun h1 => ?_) (fun h1 => ?_)
      · refine lv_iconst (v := 0) hx hb dX6_isLess_51 (by decide) ?_
        exact zh_zret () hx hb hr hlocks dX6_isLess_52 hP hD hS (bI_f (decide_eq_false (by rw [show N = M by simpa using he]; exact Nat.lt_irrefl M))) (rfl)
      · exact absurd (by decide) h1
    | succ n ih =>
      intro  hn he H locs hP hD hS ls hl
      rw [nI_pred n] at hl
      have hb0 := lb_lt N n
      have hb1 := lb_lt M n
      refine lv_iload_n hx hb dX6_isLess_3 rfl (lv_at hl 2 rfl) ?_
      refine lv_if_lt (tgt := 51) hx hb dX6_isLess_4 (by decide) (fun h2 => ?_) (fun h2 => ?_)
      · exact absurd h2 (nI_pos (by omega))
      · refine lv_aload_n hx hb dX6_isLess_7 rfl (lv_at hl 0 rfl) ?_
        refine va_get (D := D) (ci := 2) (v := .ref f0) (C := RX6) (T := TX6) (N := 1) hx hb hts i_X6 hown hK hP 0 rfl rfl 0 (by decide) (hts _ u76) (fun _ h9 => h9) rfl dX6_isLess_8 ?_
        refine lv_iload_n hx hb dX6_isLess_11 rfl (lv_at hl 2 rfl) ?_
        refine za_lald hx hb hK hP 1 rfl n (rfl) (by omega) (by decide) dX6_isLess_12 ?_
        refine lv_aload_n hx hb dX6_isLess_13 rfl (lv_at hl 1 rfl) ?_
        refine va_get (D := D) (ci := 2) (v := .ref f1) (C := RX6) (T := TX6) (N := 1) hx hb hts i_X6 hown hK hP 2 rfl rfl 0 (by decide) (hts _ u76) (fun _ h9 => h9) rfl dX6_isLess_14 ?_
        refine lv_iload_n hx hb dX6_isLess_17 rfl (lv_at hl 2 rfl) ?_
        refine za_lald hx hb hK hP 3 rfl n (rfl) (by omega) (by decide) dX6_isLess_18 ?_
        refine zl_eq (tgt := 45) hx hb dX6_isLess_19 dX6_isLess_20 (by decide) (fun h3 => ?_) (fun h3 => ?_)
        · refine lv_iinc (v := (nI n - 1)) (lv' := [(2, .int (nI n - 1)), (0, .ref b0), (1, .ref b1)]) hx hb dX6_isLess_45 hl (k := 2) rfl (by rw [Int32.sub_eq_add_neg]; rfl) (by decide) rfl (fun ls hl => ?_)
          refine lv_goto (tgt := 3) hx hb dX6_isLess_48 (by decide) ?_
          exact ih  (by omega) (wl_eq (by omega) he ((pk_lEQ (by have := lb_lt N n; omega) (by have := lb_lt M n; omega)).mp h3)) _ _ hP hD hS ls (lv_sub hl [1, 2, 0] rfl)
        · refine lv_aload_n hx hb dX6_isLess_23 rfl (lv_at hl 0 rfl) ?_
          refine va_get (D := D) (ci := 2) (v := .ref f0) (C := RX6) (T := TX6) (N := 1) hx hb hts i_X6 hown hK hP 0 rfl rfl 0 (by decide) (hts _ u76) (fun _ h9 => h9) rfl dX6_isLess_24 ?_
          refine lv_iload_n hx hb dX6_isLess_27 rfl (lv_at hl 2 rfl) ?_
          refine za_lald hx hb hK hP 1 rfl n (rfl) (by omega) (by decide) dX6_isLess_28 ?_
          refine lv_aload_n hx hb dX6_isLess_29 rfl (lv_at hl 1 rfl) ?_
          refine va_get (D := D) (ci := 2) (v := .ref f1) (C := RX6) (T := TX6) (N := 1) hx hb hts i_X6 hown hK hP 2 rfl rfl 0 (by decide) (hts _ u76) (fun _ h9 => h9) rfl dX6_isLess_30 ?_
          refine lv_iload_n hx hb dX6_isLess_33 rfl (lv_at hl 2 rfl) ?_
          refine za_lald hx hb hK hP 3 rfl n (rfl) (by omega) (by decide) dX6_isLess_34 ?_
          refine zl_ge (tgt := 43) hx hb dX6_isLess_35 dX6_isLess_36 (by decide) (fun h4 => ?_) (fun h4 => ?_)
          · refine lv_iconst (v := 0) hx hb dX6_isLess_43 (by decide) ?_
            exact zh_zret () hx hb hr hlocks dX6_isLess_44 hP hD hS (bI_f (decide_eq_false (Nat.not_lt.mpr (Nat.le_of_lt (wl_lt (by omega) he.symm (by have q1 : ¬ lb N n < lb M n := fun q => h4 ((pk_lLT (by omega) (by omega)).mpr q); have q2 : ¬ lb N n = lb M n := fun q => h3 (by rw [q]); omega)))))) (rfl)
          · refine lv_iconst (v := 1) hx hb dX6_isLess_39 (by decide) ?_
            refine lv_goto (tgt := 44) hx hb dX6_isLess_40 (by decide) ?_
            exact zh_zret () hx hb hr hlocks dX6_isLess_44 hP hD hS (bI_t (decide_eq_true (wl_lt (by omega) he ((pk_lLT (by omega) (by omega)).mp h4)))) (rfl)
  exact lp 7  (by decide) (by rw [ws_top hN, ws_top hM]) _ _ hP hD hS ls (lv_sub hl [1, 2, 0] rfl)
set_option maxRecDepth 20000 in
theorem c_X6_setGap (l : Launch) (D : va_G) (T : Nat → ClassId) (b0 f0 b1 f1 b2 f2 N N1 N2 : Nat) (hN : N1 < 2 ^ 210) (hM : N2 < 2 ^ 210) : Hm l yX6_setGap cX6_setGap 11 none 1 0 0 D T [.ref b0, .ref b1, .ref b2] [(b0, .inr (2, [.ref f0])), (f0, .inl (T 1, 7, .inr (.inl (fun i => lN (lb N i))))), (b1, .inr (2, [.ref f1])), (f1, .inl (T 1, 7, .inr (.inl (fun i => lN (lb N1 i))))), (b2, .inr (2, [.ref f2])), (f2, .inl (T 1, 7, .inr (.inl (fun i => lN (lb N2 i)))))] none (fun _ : Unit => [(b0, .inr (2, [.ref f0])), (f0, .inl (T 1, 7, .inr (.inl (fun i => lN (lb (N1 - N2 + (N2 - N1)) i))))), (b1, .inr (2, [.ref f1])), (f1, .inl (T 1, 7, .inr (.inl (fun i => lN (lb N1 i))))), (b2, .inr (2, [.ref f2])), (f2, .inl (T 1, 7, .inr (.inl (fun i => lN (lb N2 i)))))]) := by
  refine Hm.of (by decide) (Nat.le_of_ble_eq_true rfl) ?_
  intro zp ze s zm args below zmeth zc hx hb hr hml hown hin hts hlocks A hA hP hK hD hS ls hl
  have hl : lv_has ls 11 [(0, .ref b0), (1, .ref b1), (2, .ref b2)] := hl
  refine lv_aload_n hx hb dX6_setGap_0 rfl (lv_at hl 1 rfl) ?_
  refine lv_aload_n hx hb dX6_setGap_1 rfl (lv_at hl 2 rfl) ?_
  refine zh_v (T := T) hx hb hml hown hts k_X6_23 (c_X6_isLess l D T b1 f1 b2 f2 N1 N2 (hN) (hM)) ⟨by decide, by decide⟩ rfl hl.1 [] rfl (Nat.le_of_ble_eq_true rfl) dX6_setGap_2 ⟨Nat.le_of_ble_eq_true rfl, Nat.le_of_ble_eq_true rfl⟩ hK hP hD hS hA (ci := 2) rfl rfl rfl [2, 3, 4, 5] [0, 1] (wr := [(b0, .inr (2, [.ref f0])), (f0, .inl (T 1, 7, .inr (.inl (fun i => lN (lb N i)))))]) rfl rfl (by decide) (by decide) (by decide) [0, 1, 2, 3, 4, 5] (fun _ => [(b0, .inr (2, [.ref f0])), (f0, .inl (T 1, 7, .inr (.inl (fun i => lN (lb N i))))), (b1, .inr (2, [.ref f1])), (f1, .inl (T 1, 7, .inr (.inl (fun i => lN (lb N1 i))))), (b2, .inr (2, [.ref f2])), (f2, .inl (T 1, 7, .inr (.inl (fun i => lN (lb N2 i)))))]) (by decide) (fun _ => rfl) (fun _ H locs hP hD hS => ?_)
  have hP : va_P D zcl [(b0, .inr (2, [.ref f0])), (f0, .inl (T 1, 7, .inr (.inl (fun i => lN (lb N i))))), (b1, .inr (2, [.ref f1])), (f1, .inl (T 1, 7, .inr (.inl (fun i => lN (lb N1 i))))), (b2, .inr (2, [.ref f2])), (f2, .inl (T 1, 7, .inr (.inl (fun i => lN (lb N2 i)))))] H := hP
  have hD : va_D A [(b0, .inr (2, [.ref f0])), (f0, .inl (T 1, 7, .inr (.inl (fun i => lN (lb N i))))), (b1, .inr (2, [.ref f1])), (f1, .inl (T 1, 7, .inr (.inl (fun i => lN (lb N1 i))))), (b2, .inr (2, [.ref f2])), (f2, .inl (T 1, 7, .inr (.inl (fun i => lN (lb N2 i)))))] := hD
  refine lv_istore_n (lv' := [(3, .int (bI (decide (N1 < N2)))), (0, .ref b0), (1, .ref b1), (2, .ref b2)]) hx hb dX6_setGap_5 rfl hl (by decide) rfl (fun ls hl => ?_)
  refine lv_iload_n hx hb dX6_setGap_6 rfl (lv_at hl 0 rfl) ?_
  refine zb_eq (tgt := 14) hx hb dX6_setGap_7 (by decide) (fun h1 => ?_) (fun h1 => ?_)
  · refine lv_aload_n hx hb dX6_setGap_14 rfl (lv_at hl 2 rfl) ?_
    refine lv_astore (lv' := [(4, .ref b1), (3, .int (bI (decide (N1 < N2)))), (0, .ref b0), (1, .ref b1), (2, .ref b2)]) hx hb dX6_setGap_15 hl (by decide) rfl (fun ls hl => ?_)
    refine lv_iload_n hx hb dX6_setGap_17 rfl (lv_at hl 1 rfl) ?_
    refine zb_eq (tgt := 25) hx hb dX6_setGap_18 (by decide) (fun h2 => ?_) (fun h2 => ?_)
    · refine lv_aload_n hx hb dX6_setGap_25 rfl (lv_at hl 4 rfl) ?_
      refine lv_astore (lv' := [(5, .ref b2), (4, .ref b1), (3, .int (bI (decide (N1 < N2)))), (0, .ref b0), (1, .ref b1), (2, .ref b2)]) hx hb dX6_setGap_26 hl (by decide) rfl (fun ls hl => ?_)
      refine lv_lconst (v := 0) hx hb dX6_setGap_28 (by decide) ?_
      refine zf_l (x' := lN (bw N1 N2 0)) (by rw [bw_0]; rfl) ?_
      refine lv_lstore (lv' := [(6, .long (lN (bw N1 N2 0))), (5, .ref b2), (4, .ref b1), (3, .int (bI (decide (N1 < N2)))), (0, .ref b0), (1, .ref b1), (2, .ref b2)]) hx hb dX6_setGap_29 hl (by decide) rfl (fun ls hl => ?_)
      refine lv_iconst (v := 0) hx hb dX6_setGap_31 (by decide) ?_
      refine lv_istore (lv' := [(8, .int 0), (6, .long (lN (bw N1 N2 0))), (5, .ref b2), (4, .ref b1), (3, .int (bI (decide (N1 < N2)))), (0, .ref b0), (1, .ref b1), (2, .ref b2)]) hx hb dX6_setGap_32 hl (by decide) rfl (fun ls hl => ?_)
      have hle : N2 ≤ N1 := Nat.not_lt.mp (of_decide_eq_false h1)
      have hgap : N1 - N2 = N1 - N2 + (N2 - N1) := by omega
      rw [show (fun i => lN (lb N i)) = (fun i => lN (if i < 0 then lb (N1 - N2) i else lb N i)) from wide_0 _ _] at hP hD
      have hP : va_P D zcl [(b0, .inr (2, [.ref f0])), (f0, .inl (T 1, 7, .inr (.inl (fun i => lN (if i < 0 then lb (N1 - N2) i else lb N i))))), (b1, .inr (2, [.ref f1])), (f1, .inl (T 1, 7, .inr (.inl (fun i => lN (lb N1 i))))), (b2, .inr (2, [.ref f2])), (f2, .inl (T 1, 7, .inr (.inl (fun i => lN (lb N2 i)))))] H := hP
      have hD : va_D A [(b0, .inr (2, [.ref f0])), (f0, .inl (T 1, 7, .inr (.inl (fun i => lN (if i < 0 then lb (N1 - N2) i else lb N i))))), (b1, .inr (2, [.ref f1])), (f1, .inl (T 1, 7, .inr (.inl (fun i => lN (lb N1 i))))), (b2, .inr (2, [.ref f2])), (f2, .inl (T 1, 7, .inr (.inl (fun i => lN (lb N2 i)))))] := hD
      have lp : ∀ (n : Nat) (j : Nat), j + n = 7 → ∀ (H : Heap) (locs : List Loc), va_P D zcl [(b0, .inr (2, [.ref f0])), (f0, .inl (T 1, 7, .inr (.inl (fun i => lN (if i < j then lb (N1 - N2) i else lb N i))))), (b1, .inr (2, [.ref f1])), (f1, .inl (T 1, 7, .inr (.inl (fun i => lN (lb N1 i))))), (b2, .inr (2, [.ref f2])), (f2, .inl (T 1, 7, .inr (.inl (fun i => lN (lb N2 i)))))] H → va_D A [(b0, .inr (2, [.ref f0])), (f0, .inl (T 1, 7, .inr (.inl (fun i => lN (if i < j then lb (N1 - N2) i else lb N i))))), (b1, .inr (2, [.ref f1])), (f1, .inl (T 1, 7, .inr (.inl (fun i => lN (lb N1 i))))), (b2, .inr (2, [.ref f2])), (f2, .inl (T 1, 7, .inr (.inl (fun i => lN (lb N2 i)))))] → va_S A s.heap H locs → ∀ ls : Array Slot, lv_has ls 11 [(0, .ref b0), (4, .ref b1), (5, .ref b2), (6, .long (lN (bw N1 N2 j))), (8, .int (nI j))] → W zp l ze (zR 1 0 0) s zm args below zmeth zc H locs 0 0 (MQ below (zQh D A none (fun _ : Unit => [(b0, .inr (2, [.ref f0])), (f0, .inl (T 1, 7, .inr (.inl (fun i => lN (lb (N1 - N2 + (N2 - N1)) i))))), (b1, .inr (2, [.ref f1])), (f1, .inl (T 1, 7, .inr (.inl (fun i => lN (lb N1 i))))), (b2, .inr (2, [.ref f2])), (f2, .inl (T 1, 7, .inr (.inl (fun i => lN (lb N2 i)))))])) args s 0 0 A) (F0 zm 34 ls []) := by
        intro n
        induction n with
        | zero =>
          intro j hj H locs hP hD hS ls hl
          have hj7 : j = 7 := by omega
          refine lv_iload hx hb dX6_setGap_34 (lv_at hl 4 rfl) ?_
          refine lv_bipush (v := 7) hx hb dX6_setGap_36 (by decide) ?_
          refine lv_icmp_ge (tgt := 96) hx hb dX6_setGap_38 (by decide) (fun h3 => ?_) (fun h3 => ?_)
          · exact zh_vret () hx hb hr hlocks dX6_setGap_96 hP hD hS (by rw [hj7, wide_7, ← hgap])
          · exact absurd (show nI 7 ≤ nI j from nI_le (by omega) (by omega)) h3
        | succ n ih =>
          intro j hj H locs hP hD hS ls hl
          have hj7 : j < 7 := by omega
          have hg0 := lb_lt N1 j
          have hg1 := lb_lt N2 j
          have hg2 := bw_le N1 N2 j
          refine lv_iload hx hb dX6_setGap_34 (lv_at hl 4 rfl) ?_
          refine lv_bipush (v := 7) hx hb dX6_setGap_36 (by decide) ?_
          refine lv_icmp_ge (tgt := 96) hx hb dX6_setGap_38 (by decide) (fun h4 => ?_) (fun h4 => ?_)
          · exact absurd h4 (show ¬ nI 7 ≤ nI j from nI_ge (by omega) (by decide))
          · refine lv_aload hx hb dX6_setGap_41 (lv_at hl 1 rfl) ?_
            refine va_get (D := D) (ci := 2) (v := .ref f1) (C := RX6) (T := TX6) (N := 1) hx hb hts i_X6 hown hK hP 2 rfl rfl 0 (by decide) (hts _ u76) (fun _ h9 => h9) rfl dX6_setGap_43 ?_
            refine lv_iload hx hb dX6_setGap_46 (lv_at hl 4 rfl) ?_
            refine za_lald hx hb hK hP 3 rfl j (rfl) (by omega) (by decide) dX6_setGap_48 ?_
            refine lv_aload hx hb dX6_setGap_49 (lv_at hl 2 rfl) ?_
            refine va_get (D := D) (ci := 2) (v := .ref f2) (C := RX6) (T := TX6) (N := 1) hx hb hts i_X6 hown hK hP 4 rfl rfl 0 (by decide) (hts _ u76) (fun _ h9 => h9) rfl dX6_setGap_51 ?_
            refine lv_iload hx hb dX6_setGap_54 (lv_at hl 4 rfl) ?_
            refine za_lald hx hb hK hP 5 rfl j (rfl) (by omega) (by decide) dX6_setGap_56 ?_
            refine lv_lsub hx hb dX6_setGap_57 ?_
            refine lv_lload hx hb dX6_setGap_58 (lv_at hl 3 rfl) ?_
            refine lv_lsub hx hb dX6_setGap_60 ?_
            refine zf_l (x' := lN (lb N1 j + 2 ^ 64 - lb N2 j - bw N1 N2 j)) (gap_sub (by omega)) ?_
            refine lv_lstore (lv' := [(9, .long (lN (lb N1 j + 2 ^ 64 - lb N2 j - bw N1 N2 j))), (0, .ref b0), (4, .ref b1), (5, .ref b2), (6, .long (lN (bw N1 N2 j))), (8, .int (nI j))]) hx hb dX6_setGap_61 hl (by decide) rfl (fun ls hl => ?_)
            refine lv_aload_n hx hb dX6_setGap_63 rfl (lv_at hl 1 rfl) ?_
            refine va_get (D := D) (ci := 2) (v := .ref f0) (C := RX6) (T := TX6) (N := 1) hx hb hts i_X6 hown hK hP 0 rfl rfl 0 (by decide) (hts _ u76) (fun _ h9 => h9) rfl dX6_setGap_64 ?_
            refine lv_iload hx hb dX6_setGap_67 (lv_at hl 5 rfl) ?_
            refine lv_lload hx hb dX6_setGap_69 (lv_at hl 0 rfl) ?_
            refine lv_ldc2 hx hb hown (hts _ u271) dX6_setGap_71 ?_
            refine lv_land hx hb dX6_setGap_74 ?_
            refine zf_l (x' := lN (lb (N1 - N2) j)) ((gap_mask hg0 (by omega)).trans (by rw [← gap_limb hj7 hle])) ?_
            refine za_last hx hb hK hP hD hS 1 rfl j (rfl) (by omega) (by decide) (fun i => lN (if i < j + 1 then lb (N1 - N2) i else lb N i)) (wide_up) dX6_setGap_75 (fun H locs hP hD hS => ?_)
            have hP : va_P D zcl [(b0, .inr (2, [.ref f0])), (f0, .inl (T 1, 7, .inr (.inl (fun i => lN (if i < j + 1 then lb (N1 - N2) i else lb N i))))), (b1, .inr (2, [.ref f1])), (f1, .inl (T 1, 7, .inr (.inl (fun i => lN (lb N1 i))))), (b2, .inr (2, [.ref f2])), (f2, .inl (T 1, 7, .inr (.inl (fun i => lN (lb N2 i)))))] H := hP
            have hD : va_D A [(b0, .inr (2, [.ref f0])), (f0, .inl (T 1, 7, .inr (.inl (fun i => lN (if i < j + 1 then lb (N1 - N2) i else lb N i))))), (b1, .inr (2, [.ref f1])), (f1, .inl (T 1, 7, .inr (.inl (fun i => lN (lb N1 i))))), (b2, .inr (2, [.ref f2])), (f2, .inl (T 1, 7, .inr (.inl (fun i => lN (lb N2 i)))))] := hD
            refine lv_lload hx hb dX6_setGap_76 (lv_at hl 0 rfl) ?_
            refine lv_lconst (v := 0) hx hb dX6_setGap_78 (by decide) ?_
            refine zl_ge (tgt := 87) hx hb dX6_setGap_79 dX6_setGap_80 (by decide) (fun h5 => ?_) (fun h5 => ?_)
            · refine lv_lconst (v := 0) hx hb dX6_setGap_87 (by decide) ?_
              refine zf_l (x' := lN (bw N1 N2 (j + 1))) (by rw [bw_step hj7, if_neg (fun q => h5 ((gap_neg hg0 (by omega)).mpr q))]; rfl) ?_
              refine lv_lstore (lv' := [(6, .long (lN (bw N1 N2 (j + 1)))), (9, .long (lN (lb N1 j + 2 ^ 64 - lb N2 j - bw N1 N2 j))), (0, .ref b0), (4, .ref b1), (5, .ref b2), (8, .int (nI j))]) hx hb dX6_setGap_88 hl (by decide) rfl (fun ls hl => ?_)
              refine lv_iinc (v := (nI (j + 1))) (lv' := [(8, .int (nI (j + 1))), (6, .long (lN (bw N1 N2 (j + 1)))), (9, .long (lN (lb N1 j + 2 ^ 64 - lb N2 j - bw N1 N2 j))), (0, .ref b0), (4, .ref b1), (5, .ref b2)]) hx hb dX6_setGap_90 hl (k := 5) rfl (nI_1 j) (by decide) rfl (fun ls hl => ?_)
              refine lv_goto (tgt := 34) hx hb dX6_setGap_93 (by decide) ?_
              exact ih (j + 1) (by omega) _ _ hP hD hS ls (lv_sub hl [3, 4, 5, 1, 0] rfl)
            · refine lv_lconst (v := 1) hx hb dX6_setGap_83 (by decide) ?_
              refine zf_l (x' := lN (bw N1 N2 (j + 1))) (by rw [bw_step hj7, if_pos ((gap_neg hg0 (by omega)).mp h5)]; rfl) ?_
              refine lv_goto (tgt := 88) hx hb dX6_setGap_84 (by decide) ?_
              refine lv_lstore (lv' := [(6, .long (lN (bw N1 N2 (j + 1)))), (9, .long (lN (lb N1 j + 2 ^ 64 - lb N2 j - bw N1 N2 j))), (0, .ref b0), (4, .ref b1), (5, .ref b2), (8, .int (nI j))]) hx hb dX6_setGap_88 hl (by decide) rfl (fun ls hl => ?_)
              refine lv_iinc (v := (nI (j + 1))) (lv' := [(8, .int (nI (j + 1))), (6, .long (lN (bw N1 N2 (j + 1)))), (9, .long (lN (lb N1 j + 2 ^ 64 - lb N2 j - bw N1 N2 j))), (0, .ref b0), (4, .ref b1), (5, .ref b2)]) hx hb dX6_setGap_90 hl (k := 5) rfl (nI_1 j) (by decide) rfl (fun ls hl => ?_)
              refine lv_goto (tgt := 34) hx hb dX6_setGap_93 (by decide) ?_
              exact ih (j + 1) (by omega) _ _ hP hD hS ls (lv_sub hl [3, 4, 5, 1, 0] rfl)
      exact lp 7 0 (by decide) _ _ hP hD hS ls (lv_sub hl [5, 3, 2, 1, 0] rfl)
    · exact absurd (h1.symm.trans h2) (by decide)
  · refine lv_aload_n hx hb dX6_setGap_10 rfl (lv_at hl 3 rfl) ?_
    refine lv_goto (tgt := 15) hx hb dX6_setGap_11 (by decide) ?_
    refine lv_astore (lv' := [(4, .ref b2), (3, .int (bI (decide (N1 < N2)))), (0, .ref b0), (1, .ref b1), (2, .ref b2)]) hx hb dX6_setGap_15 hl (by decide) rfl (fun ls hl => ?_)
    refine lv_iload_n hx hb dX6_setGap_17 rfl (lv_at hl 1 rfl) ?_
    refine zb_eq (tgt := 25) hx hb dX6_setGap_18 (by decide) (fun h6 => ?_) (fun h6 => ?_)
    · exact absurd (h1.symm.trans h6) (by decide)
    · refine lv_aload_n hx hb dX6_setGap_21 rfl (lv_at hl 3 rfl) ?_
      refine lv_goto (tgt := 26) hx hb dX6_setGap_22 (by decide) ?_
      refine lv_astore (lv' := [(5, .ref b1), (4, .ref b2), (3, .int (bI (decide (N1 < N2)))), (0, .ref b0), (1, .ref b1), (2, .ref b2)]) hx hb dX6_setGap_26 hl (by decide) rfl (fun ls hl => ?_)
      refine lv_lconst (v := 0) hx hb dX6_setGap_28 (by decide) ?_
      refine zf_l (x' := lN (bw N2 N1 0)) (by rw [bw_0]; rfl) ?_
      refine lv_lstore (lv' := [(6, .long (lN (bw N2 N1 0))), (5, .ref b1), (4, .ref b2), (3, .int (bI (decide (N1 < N2)))), (0, .ref b0), (1, .ref b1), (2, .ref b2)]) hx hb dX6_setGap_29 hl (by decide) rfl (fun ls hl => ?_)
      refine lv_iconst (v := 0) hx hb dX6_setGap_31 (by decide) ?_
      refine lv_istore (lv' := [(8, .int 0), (6, .long (lN (bw N2 N1 0))), (5, .ref b1), (4, .ref b2), (3, .int (bI (decide (N1 < N2)))), (0, .ref b0), (1, .ref b1), (2, .ref b2)]) hx hb dX6_setGap_32 hl (by decide) rfl (fun ls hl => ?_)
      have hlt : N1 < N2 := of_decide_eq_true h1
      have hle : N1 ≤ N2 := Nat.le_of_lt hlt
      have hgap : N2 - N1 = N1 - N2 + (N2 - N1) := by omega
      rw [show (fun i => lN (lb N i)) = (fun i => lN (if i < 0 then lb (N2 - N1) i else lb N i)) from wide_0 _ _] at hP hD
      have hP : va_P D zcl [(b0, .inr (2, [.ref f0])), (f0, .inl (T 1, 7, .inr (.inl (fun i => lN (if i < 0 then lb (N2 - N1) i else lb N i))))), (b1, .inr (2, [.ref f1])), (f1, .inl (T 1, 7, .inr (.inl (fun i => lN (lb N1 i))))), (b2, .inr (2, [.ref f2])), (f2, .inl (T 1, 7, .inr (.inl (fun i => lN (lb N2 i)))))] H := hP
      have hD : va_D A [(b0, .inr (2, [.ref f0])), (f0, .inl (T 1, 7, .inr (.inl (fun i => lN (if i < 0 then lb (N2 - N1) i else lb N i))))), (b1, .inr (2, [.ref f1])), (f1, .inl (T 1, 7, .inr (.inl (fun i => lN (lb N1 i))))), (b2, .inr (2, [.ref f2])), (f2, .inl (T 1, 7, .inr (.inl (fun i => lN (lb N2 i)))))] := hD
      have lp : ∀ (n : Nat) (j : Nat), j + n = 7 → ∀ (H : Heap) (locs : List Loc), va_P D zcl [(b0, .inr (2, [.ref f0])), (f0, .inl (T 1, 7, .inr (.inl (fun i => lN (if i < j then lb (N2 - N1) i else lb N i))))), (b1, .inr (2, [.ref f1])), (f1, .inl (T 1, 7, .inr (.inl (fun i => lN (lb N1 i))))), (b2, .inr (2, [.ref f2])), (f2, .inl (T 1, 7, .inr (.inl (fun i => lN (lb N2 i)))))] H → va_D A [(b0, .inr (2, [.ref f0])), (f0, .inl (T 1, 7, .inr (.inl (fun i => lN (if i < j then lb (N2 - N1) i else lb N i))))), (b1, .inr (2, [.ref f1])), (f1, .inl (T 1, 7, .inr (.inl (fun i => lN (lb N1 i))))), (b2, .inr (2, [.ref f2])), (f2, .inl (T 1, 7, .inr (.inl (fun i => lN (lb N2 i)))))] → va_S A s.heap H locs → ∀ ls : Array Slot, lv_has ls 11 [(0, .ref b0), (4, .ref b2), (5, .ref b1), (6, .long (lN (bw N2 N1 j))), (8, .int (nI j))] → W zp l ze (zR 1 0 0) s zm args below zmeth zc H locs 0 0 (MQ below (zQh D A none (fun _ : Unit => [(b0, .inr (2, [.ref f0])), (f0, .inl (T 1, 7, .inr (.inl (fun i => lN (lb (N1 - N2 + (N2 - N1)) i))))), (b1, .inr (2, [.ref f1])), (f1, .inl (T 1, 7, .inr (.inl (fun i => lN (lb N1 i))))), (b2, .inr (2, [.ref f2])), (f2, .inl (T 1, 7, .inr (.inl (fun i => lN (lb N2 i)))))])) args s 0 0 A) (F0 zm 34 ls []) := by
        intro n
        induction n with
        | zero =>
          intro j hj H locs hP hD hS ls hl
          have hj7 : j = 7 := by omega
          refine lv_iload hx hb dX6_setGap_34 (lv_at hl 4 rfl) ?_
          refine lv_bipush (v := 7) hx hb dX6_setGap_36 (by decide) ?_
          refine lv_icmp_ge (tgt := 96) hx hb dX6_setGap_38 (by decide) (fun h7 => ?_) (fun h7 => ?_)
          · exact zh_vret () hx hb hr hlocks dX6_setGap_96 hP hD hS (by rw [hj7, wide_7, ← hgap])
          · exact absurd (show nI 7 ≤ nI j from nI_le (by omega) (by omega)) h7
        | succ n ih =>
          intro j hj H locs hP hD hS ls hl
          have hj7 : j < 7 := by omega
          have hg0 := lb_lt N2 j
          have hg1 := lb_lt N1 j
          have hg2 := bw_le N2 N1 j
          refine lv_iload hx hb dX6_setGap_34 (lv_at hl 4 rfl) ?_
          refine lv_bipush (v := 7) hx hb dX6_setGap_36 (by decide) ?_
          refine lv_icmp_ge (tgt := 96) hx hb dX6_setGap_38 (by decide) (fun h8 => ?_) (fun h8 => ?_)
          · exact absurd h8 (show ¬ nI 7 ≤ nI j from nI_ge (by omega) (by decide))
          · refine lv_aload hx hb dX6_setGap_41 (lv_at hl 1 rfl) ?_
            refine va_get (D := D) (ci := 2) (v := .ref f2) (C := RX6) (T := TX6) (N := 1) hx hb hts i_X6 hown hK hP 4 rfl rfl 0 (by decide) (hts _ u76) (fun _ h9 => h9) rfl dX6_setGap_43 ?_
            refine lv_iload hx hb dX6_setGap_46 (lv_at hl 4 rfl) ?_
            refine za_lald hx hb hK hP 5 rfl j (rfl) (by omega) (by decide) dX6_setGap_48 ?_
            refine lv_aload hx hb dX6_setGap_49 (lv_at hl 2 rfl) ?_
            refine va_get (D := D) (ci := 2) (v := .ref f1) (C := RX6) (T := TX6) (N := 1) hx hb hts i_X6 hown hK hP 2 rfl rfl 0 (by decide) (hts _ u76) (fun _ h9 => h9) rfl dX6_setGap_51 ?_
            refine lv_iload hx hb dX6_setGap_54 (lv_at hl 4 rfl) ?_
            refine za_lald hx hb hK hP 3 rfl j (rfl) (by omega) (by decide) dX6_setGap_56 ?_
            refine lv_lsub hx hb dX6_setGap_57 ?_
            refine lv_lload hx hb dX6_setGap_58 (lv_at hl 3 rfl) ?_
            refine lv_lsub hx hb dX6_setGap_60 ?_
            refine zf_l (x' := lN (lb N2 j + 2 ^ 64 - lb N1 j - bw N2 N1 j)) (gap_sub (by omega)) ?_
            refine lv_lstore (lv' := [(9, .long (lN (lb N2 j + 2 ^ 64 - lb N1 j - bw N2 N1 j))), (0, .ref b0), (4, .ref b2), (5, .ref b1), (6, .long (lN (bw N2 N1 j))), (8, .int (nI j))]) hx hb dX6_setGap_61 hl (by decide) rfl (fun ls hl => ?_)
            refine lv_aload_n hx hb dX6_setGap_63 rfl (lv_at hl 1 rfl) ?_
            refine va_get (D := D) (ci := 2) (v := .ref f0) (C := RX6) (T := TX6) (N := 1) hx hb hts i_X6 hown hK hP 0 rfl rfl 0 (by decide) (hts _ u76) (fun _ h9 => h9) rfl dX6_setGap_64 ?_
            refine lv_iload hx hb dX6_setGap_67 (lv_at hl 5 rfl) ?_
            refine lv_lload hx hb dX6_setGap_69 (lv_at hl 0 rfl) ?_
            refine lv_ldc2 hx hb hown (hts _ u271) dX6_setGap_71 ?_
            refine lv_land hx hb dX6_setGap_74 ?_
            refine zf_l (x' := lN (lb (N2 - N1) j)) ((gap_mask hg0 (by omega)).trans (by rw [← gap_limb hj7 hle])) ?_
            refine za_last hx hb hK hP hD hS 1 rfl j (rfl) (by omega) (by decide) (fun i => lN (if i < j + 1 then lb (N2 - N1) i else lb N i)) (wide_up) dX6_setGap_75 (fun H locs hP hD hS => ?_)
            have hP : va_P D zcl [(b0, .inr (2, [.ref f0])), (f0, .inl (T 1, 7, .inr (.inl (fun i => lN (if i < j + 1 then lb (N2 - N1) i else lb N i))))), (b1, .inr (2, [.ref f1])), (f1, .inl (T 1, 7, .inr (.inl (fun i => lN (lb N1 i))))), (b2, .inr (2, [.ref f2])), (f2, .inl (T 1, 7, .inr (.inl (fun i => lN (lb N2 i)))))] H := hP
            have hD : va_D A [(b0, .inr (2, [.ref f0])), (f0, .inl (T 1, 7, .inr (.inl (fun i => lN (if i < j + 1 then lb (N2 - N1) i else lb N i))))), (b1, .inr (2, [.ref f1])), (f1, .inl (T 1, 7, .inr (.inl (fun i => lN (lb N1 i))))), (b2, .inr (2, [.ref f2])), (f2, .inl (T 1, 7, .inr (.inl (fun i => lN (lb N2 i)))))] := hD
            refine lv_lload hx hb dX6_setGap_76 (lv_at hl 0 rfl) ?_
            refine lv_lconst (v := 0) hx hb dX6_setGap_78 (by decide) ?_
            refine zl_ge (tgt := 87) hx hb dX6_setGap_79 dX6_setGap_80 (by decide) (fun h9 => ?_) (fun h9 => ?_)
            · refine lv_lconst (v := 0) hx hb dX6_setGap_87 (by decide) ?_
              refine zf_l (x' := lN (bw N2 N1 (j + 1))) (by rw [bw_step hj7, if_neg (fun q => h9 ((gap_neg hg0 (by omega)).mpr q))]; rfl) ?_
              refine lv_lstore (lv' := [(6, .long (lN (bw N2 N1 (j + 1)))), (9, .long (lN (lb N2 j + 2 ^ 64 - lb N1 j - bw N2 N1 j))), (0, .ref b0), (4, .ref b2), (5, .ref b1), (8, .int (nI j))]) hx hb dX6_setGap_88 hl (by decide) rfl (fun ls hl => ?_)
              refine lv_iinc (v := (nI (j + 1))) (lv' := [(8, .int (nI (j + 1))), (6, .long (lN (bw N2 N1 (j + 1)))), (9, .long (lN (lb N2 j + 2 ^ 64 - lb N1 j - bw N2 N1 j))), (0, .ref b0), (4, .ref b2), (5, .ref b1)]) hx hb dX6_setGap_90 hl (k := 5) rfl (nI_1 j) (by decide) rfl (fun ls hl => ?_)
              refine lv_goto (tgt := 34) hx hb dX6_setGap_93 (by decide) ?_
              exact ih (j + 1) (by omega) _ _ hP hD hS ls (lv_sub hl [3, 4, 5, 1, 0] rfl)
            · refine lv_lconst (v := 1) hx hb dX6_setGap_83 (by decide) ?_
              refine zf_l (x' := lN (bw N2 N1 (j + 1))) (by rw [bw_step hj7, if_pos ((gap_neg hg0 (by omega)).mp h9)]; rfl) ?_
              refine lv_goto (tgt := 88) hx hb dX6_setGap_84 (by decide) ?_
              refine lv_lstore (lv' := [(6, .long (lN (bw N2 N1 (j + 1)))), (9, .long (lN (lb N2 j + 2 ^ 64 - lb N1 j - bw N2 N1 j))), (0, .ref b0), (4, .ref b2), (5, .ref b1), (8, .int (nI j))]) hx hb dX6_setGap_88 hl (by decide) rfl (fun ls hl => ?_)
              refine lv_iinc (v := (nI (j + 1))) (lv' := [(8, .int (nI (j + 1))), (6, .long (lN (bw N2 N1 (j + 1)))), (9, .long (lN (lb N2 j + 2 ^ 64 - lb N1 j - bw N2 N1 j))), (0, .ref b0), (4, .ref b2), (5, .ref b1)]) hx hb dX6_setGap_90 hl (k := 5) rfl (nI_1 j) (by decide) rfl (fun ls hl => ?_)
              refine lv_goto (tgt := 34) hx hb dX6_setGap_93 (by decide) ?_
              exact ih (j + 1) (by omega) _ _ hP hD hS ls (lv_sub hl [3, 4, 5, 1, 0] rfl)
      exact lp 7 0 (by decide) _ _ hP hD hS ls (lv_sub hl [5, 3, 2, 1, 0] rfl)
set_option maxRecDepth 20000 in
theorem c_X4_isFull (l : Launch) (D : va_G) (T : Nat → ClassId) (o c1 f1 : Nat) (tw : Nat → Nat) (n0 : Nat) (hn : n0 ≤ 60) : Hm l yX4_isFull cX4_isFull 1 (some FieldType.boolean) 0 0 0 D T [.ref o] [(o, .inr (1, [.ref c1, .ref f1, .int (nI n0), .int (nI (htN tw n0))])), (c1, .inl (T 0, 60, .inl (fun k => nI (tw k)))), (f1, .inl (T 0, 60, .inl (fun k => nI (fN (eig (tw k))))))] (some (.int (bI (decide (60 ≤ n0))))) (fun _ : Unit => [(o, .inr (1, [.ref c1, .ref f1, .int (nI n0), .int (nI (htN tw n0))])), (c1, .inl (T 0, 60, .inl (fun k => nI (tw k)))), (f1, .inl (T 0, 60, .inl (fun k => nI (fN (eig (tw k))))))]) := by
  refine Hm.of (by decide) (Nat.le_of_ble_eq_true rfl) ?_
  intro zp ze s zm args below zmeth zc hx hb hr hml hown hin hts hlocks A hA hP hK hD hS ls hl
  have hl : lv_has ls 1 [(0, .ref o)] := hl
  refine lv_aload_n hx hb dX4_isFull_0 rfl (lv_at hl 0 rfl) ?_
  refine va_get (D := D) (ci := 1) (v := .int (nI n0)) (C := RX4) (T := TX4) (N := 4) hx hb hts i_X4 hown hK hP 0 rfl rfl 2 (by decide) (hts _ u51) (fun _ h9 => h9) rfl dX4_isFull_1 ?_
  refine lv_bipush (v := 60) hx hb dX4_isFull_4 (by decide) ?_
  refine lv_icmp_lt (tgt := 13) hx hb dX4_isFull_6 (by decide) (fun h1 => ?_) (fun h1 => ?_)
  · refine lv_iconst (v := 0) hx hb dX4_isFull_13 (by decide) ?_
    exact zh_zret () hx hb hr hlocks dX4_isFull_14 hP hD hS (bI_f (decide_eq_false (fun q => absurd h1 (show ¬ nI n0 < nI 60 from nI_nlt q (by omega))))) (rfl)
  · refine lv_iconst (v := 1) hx hb dX4_isFull_9 (by decide) ?_
    refine lv_goto (tgt := 14) hx hb dX4_isFull_10 (by decide) ?_
    exact zh_zret () hx hb hr hlocks dX4_isFull_14 hP hD hS (bI_t (decide_eq_true (Nat.not_lt.mp fun q => h1 (show nI n0 < nI 60 from nI_lt q (by decide))))) (rfl)
set_option maxRecDepth 20000 in
theorem c_X4_isEmpty (l : Launch) (D : va_G) (T : Nat → ClassId) (o c1 f1 : Nat) (tw : Nat → Nat) (n0 : Nat) (hn : n0 ≤ 60) : Hm l yX4_isEmpty cX4_isEmpty 1 (some FieldType.boolean) 0 0 0 D T [.ref o] [(o, .inr (1, [.ref c1, .ref f1, .int (nI n0), .int (nI (htN tw n0))])), (c1, .inl (T 0, 60, .inl (fun k => nI (tw k)))), (f1, .inl (T 0, 60, .inl (fun k => nI (fN (eig (tw k))))))] (some (.int (bI (decide (n0 = 0))))) (fun _ : Unit => [(o, .inr (1, [.ref c1, .ref f1, .int (nI n0), .int (nI (htN tw n0))])), (c1, .inl (T 0, 60, .inl (fun k => nI (tw k)))), (f1, .inl (T 0, 60, .inl (fun k => nI (fN (eig (tw k))))))]) := by
  refine Hm.of (by decide) (Nat.le_of_ble_eq_true rfl) ?_
  intro zp ze s zm args below zmeth zc hx hb hr hml hown hin hts hlocks A hA hP hK hD hS ls hl
  have hl : lv_has ls 1 [(0, .ref o)] := hl
  refine lv_aload_n hx hb dX4_isEmpty_0 rfl (lv_at hl 0 rfl) ?_
  refine va_get (D := D) (ci := 1) (v := .int (nI n0)) (C := RX4) (T := TX4) (N := 4) hx hb hts i_X4 hown hK hP 0 rfl rfl 2 (by decide) (hts _ u51) (fun _ h9 => h9) rfl dX4_isEmpty_1 ?_
  refine lv_if_gt (tgt := 11) hx hb dX4_isEmpty_4 (by decide) (fun h1 => ?_) (fun h1 => ?_)
  · refine lv_iconst (v := 0) hx hb dX4_isEmpty_11 (by decide) ?_
    exact zh_zret () hx hb hr hlocks dX4_isEmpty_12 hP hD hS (bI_f (decide_eq_false (fun q => absurd h1 (by rw [q]; decide)))) (rfl)
  · refine lv_iconst (v := 1) hx hb dX4_isEmpty_7 (by decide) ?_
    refine lv_goto (tgt := 12) hx hb dX4_isEmpty_8 (by decide) ?_
    exact zh_zret () hx hb hr hlocks dX4_isEmpty_12 hP hD hS (bI_t (decide_eq_true (Classical.byContradiction fun q => h1 (show nI 0 < nI n0 from nI_lt (Nat.pos_of_ne_zero q) (by omega))))) (rfl)
set_option maxRecDepth 20000 in
theorem c_X4_height (l : Launch) (D : va_G) (T : Nat → ClassId) (o c1 f1 : Nat) (tw : Nat → Nat) (n0 : Nat)  : Hm l yX4_height cX4_height 1 (some FieldType.int) 0 0 0 D T [.ref o] [(o, .inr (1, [.ref c1, .ref f1, .int (nI n0), .int (nI (htN tw n0))])), (c1, .inl (T 0, 60, .inl (fun k => nI (tw k)))), (f1, .inl (T 0, 60, .inl (fun k => nI (fN (eig (tw k))))))] (some (.int (nI (htN tw n0)))) (fun _ : Unit => [(o, .inr (1, [.ref c1, .ref f1, .int (nI n0), .int (nI (htN tw n0))])), (c1, .inl (T 0, 60, .inl (fun k => nI (tw k)))), (f1, .inl (T 0, 60, .inl (fun k => nI (fN (eig (tw k))))))]) := by
  refine Hm.of (by decide) (Nat.le_of_ble_eq_true rfl) ?_
  intro zp ze s zm args below zmeth zc hx hb hr hml hown hin hts hlocks A hA hP hK hD hS ls hl
  have hl : lv_has ls 1 [(0, .ref o)] := hl
  refine lv_aload_n hx hb dX4_height_0 rfl (lv_at hl 0 rfl) ?_
  refine va_get (D := D) (ci := 1) (v := .int (nI (htN tw n0))) (C := RX4) (T := TX4) (N := 4) hx hb hts i_X4 hown hK hP 0 rfl rfl 3 (by decide) (hts _ u52) (fun _ h9 => h9) rfl dX4_height_1 ?_
  exact zh_iret () hx hb hr hlocks dX4_height_4 hP hD hS (rfl) (rfl)
set_option maxRecDepth 20000 in
theorem c_X4_push (l : Launch) (D : va_G) (T : Nat → ClassId) (o c1 f1 : Nat) (tw : Nat → Nat) (n0 : Nat) (v0 : Nat) (hn : n0 < 60) : Hm l yX4_push cX4_push 3 none 1 0 0 D T [.ref o, .int (nI v0), .int (nI (fN (eig v0)))] [(o, .inr (1, [.ref c1, .ref f1, .int (nI n0), .int (nI (htN tw n0))])), (c1, .inl (T 0, 60, .inl (fun k => nI (tw k)))), (f1, .inl (T 0, 60, .inl (fun k => nI (fN (eig (tw k))))))] none (fun _ : Unit => [(o, .inr (1, [.ref c1, .ref f1, .int (nI (n0 + 1)), .int (nI (htN (up tw n0 v0) (n0 + 1)))])), (c1, .inl (T 0, 60, .inl (fun k => nI ((up tw n0 v0) k)))), (f1, .inl (T 0, 60, .inl (fun k => nI (fN (eig ((up tw n0 v0) k))))))]) := by
  refine Hm.of (by decide) (Nat.le_of_ble_eq_true rfl) ?_
  intro zp ze s zm args below zmeth zc hx hb hr hml hown hin hts hlocks A hA hP hK hD hS ls hl
  have hl : lv_has ls 3 [(0, .ref o), (1, .int (nI v0)), (2, .int (nI (fN (eig v0))))] := hl
  refine lv_aload_n hx hb dX4_push_0 rfl (lv_at hl 0 rfl) ?_
  refine zh_v (T := T) hx hb hml hown hts k_X4_23 (c_X4_isFull l D T o c1 f1 tw n0 (by omega)) ⟨by decide, by decide⟩ rfl hl.1 [] rfl (Nat.le_of_ble_eq_true rfl) dX4_push_1 ⟨Nat.le_of_ble_eq_true rfl, Nat.le_of_ble_eq_true rfl⟩ hK hP hD hS hA (ci := 1) rfl rfl rfl [0, 1, 2] [] (wr := []) rfl rfl (by decide) (by decide) (by decide) [0, 1, 2] (fun _ => [(o, .inr (1, [.ref c1, .ref f1, .int (nI n0), .int (nI (htN tw n0))])), (c1, .inl (T 0, 60, .inl (fun k => nI (tw k)))), (f1, .inl (T 0, 60, .inl (fun k => nI (fN (eig (tw k))))))]) (by decide) (fun _ => rfl) (fun _ H locs hP hD hS => ?_)
  have hP : va_P D zcl [(o, .inr (1, [.ref c1, .ref f1, .int (nI n0), .int (nI (htN tw n0))])), (c1, .inl (T 0, 60, .inl (fun k => nI (tw k)))), (f1, .inl (T 0, 60, .inl (fun k => nI (fN (eig (tw k))))))] H := hP
  have hD : va_D A [(o, .inr (1, [.ref c1, .ref f1, .int (nI n0), .int (nI (htN tw n0))])), (c1, .inl (T 0, 60, .inl (fun k => nI (tw k)))), (f1, .inl (T 0, 60, .inl (fun k => nI (fN (eig (tw k))))))] := hD
  refine zb_eq (tgt := 8) hx hb dX4_push_4 (by decide) (fun h1 => ?_) (fun h1 => ?_)
  · refine lv_aload_n hx hb dX4_push_8 rfl (lv_at hl 0 rfl) ?_
    refine va_get (D := D) (ci := 1) (v := .ref c1) (C := RX4) (T := TX4) (N := 4) hx hb hts i_X4 hown hK hP 0 rfl rfl 0 (by decide) (hts _ u49) (fun _ h9 => h9) rfl dX4_push_9 ?_
    refine lv_aload_n hx hb dX4_push_12 rfl (lv_at hl 0 rfl) ?_
    refine va_get (D := D) (ci := 1) (v := .int (nI n0)) (C := RX4) (T := TX4) (N := 4) hx hb hts i_X4 hown hK hP 0 rfl rfl 2 (by decide) (hts _ u51) (fun _ h9 => h9) rfl dX4_push_13 ?_
    refine lv_iload_n hx hb dX4_push_16 rfl (lv_at hl 1 rfl) ?_
    refine za_iast hx hb hK hP hD hS 1 rfl n0 (rfl) (by omega) (by decide) (fun k => nI (up tw n0 v0 k)) (up_6 tw n0 v0) dX4_push_17 (fun H locs hP hD hS => ?_)
    have hP : va_P D zcl [(o, .inr (1, [.ref c1, .ref f1, .int (nI n0), .int (nI (htN tw n0))])), (c1, .inl (T 0, 60, .inl (fun k => nI (up tw n0 v0 k)))), (f1, .inl (T 0, 60, .inl (fun k => nI (fN (eig (tw k))))))] H := hP
    have hD : va_D A [(o, .inr (1, [.ref c1, .ref f1, .int (nI n0), .int (nI (htN tw n0))])), (c1, .inl (T 0, 60, .inl (fun k => nI (up tw n0 v0 k)))), (f1, .inl (T 0, 60, .inl (fun k => nI (fN (eig (tw k))))))] := hD
    refine lv_aload_n hx hb dX4_push_18 rfl (lv_at hl 0 rfl) ?_
    refine va_get (D := D) (ci := 1) (v := .ref f1) (C := RX4) (T := TX4) (N := 4) hx hb hts i_X4 hown hK hP 0 rfl rfl 1 (by decide) (hts _ u50) (fun _ h9 => h9) rfl dX4_push_19 ?_
    refine lv_aload_n hx hb dX4_push_22 rfl (lv_at hl 0 rfl) ?_
    refine va_get (D := D) (ci := 1) (v := .int (nI n0)) (C := RX4) (T := TX4) (N := 4) hx hb hts i_X4 hown hK hP 0 rfl rfl 2 (by decide) (hts _ u51) (fun _ h9 => h9) rfl dX4_push_23 ?_
    refine lv_iload_n hx hb dX4_push_26 rfl (lv_at hl 2 rfl) ?_
    refine za_iast hx hb hK hP hD hS 2 rfl n0 (rfl) (by omega) (by decide) (fun k => nI (fN (eig (up tw n0 v0 k)))) (up_7 tw n0 v0) dX4_push_27 (fun H locs hP hD hS => ?_)
    have hP : va_P D zcl [(o, .inr (1, [.ref c1, .ref f1, .int (nI n0), .int (nI (htN tw n0))])), (c1, .inl (T 0, 60, .inl (fun k => nI (up tw n0 v0 k)))), (f1, .inl (T 0, 60, .inl (fun k => nI (fN (eig (up tw n0 v0 k))))))] H := hP
    have hD : va_D A [(o, .inr (1, [.ref c1, .ref f1, .int (nI n0), .int (nI (htN tw n0))])), (c1, .inl (T 0, 60, .inl (fun k => nI (up tw n0 v0 k)))), (f1, .inl (T 0, 60, .inl (fun k => nI (fN (eig (up tw n0 v0 k))))))] := hD
    refine lv_aload_n hx hb dX4_push_28 rfl (lv_at hl 0 rfl) ?_
    refine lv_dup hx hb dX4_push_29 rfl ?_
    refine va_get (D := D) (ci := 1) (v := .int (nI n0)) (C := RX4) (T := TX4) (N := 4) hx hb hts i_X4 hown hK hP 0 rfl rfl 2 (by decide) (hts _ u51) (fun _ h9 => h9) rfl dX4_push_30 ?_
    refine lv_iconst (v := 1) hx hb dX4_push_33 (by decide) ?_
    refine lv_iadd hx hb dX4_push_34 ?_
    refine zf_i (x' := nI (n0 + 1)) (nI_1 n0) ?_
    refine va_put (D := D) (ci := 1) (v := .int (nI (n0 + 1))) (ty := .int) (C := RX4) (T := TX4) (N := 4) hx hb hts i_X4 tyX4 tyX4_ok nmX4 hown hK hP hD hS 0 rfl rfl 2 (by decide) (hts _ u51) (fun _ h9 => h9) rfl (by decide +kernel) rfl rfl (Nat.le_of_ble_eq_true rfl) dX4_push_35 (fun H locs hP hD hS => ?_)
    have hP : va_P D zcl [(o, .inr (1, [.ref c1, .ref f1, .int (nI (n0 + 1)), .int (nI (htN tw n0))])), (c1, .inl (T 0, 60, .inl (fun k => nI (up tw n0 v0 k)))), (f1, .inl (T 0, 60, .inl (fun k => nI (fN (eig (up tw n0 v0 k))))))] H := hP
    have hD : va_D A [(o, .inr (1, [.ref c1, .ref f1, .int (nI (n0 + 1)), .int (nI (htN tw n0))])), (c1, .inl (T 0, 60, .inl (fun k => nI (up tw n0 v0 k)))), (f1, .inl (T 0, 60, .inl (fun k => nI (fN (eig (up tw n0 v0 k))))))] := hD
    refine lv_aload_n hx hb dX4_push_38 rfl (lv_at hl 0 rfl) ?_
    refine lv_dup hx hb dX4_push_39 rfl ?_
    refine va_get (D := D) (ci := 1) (v := .int (nI (htN tw n0))) (C := RX4) (T := TX4) (N := 4) hx hb hts i_X4 hown hK hP 0 rfl rfl 3 (by decide) (hts _ u52) (fun _ h9 => h9) rfl dX4_push_40 ?_
    refine lv_iload_n hx hb dX4_push_43 rfl (lv_at hl 2 rfl) ?_
    refine lv_iadd hx hb dX4_push_44 ?_
    refine zf_i (x' := nI (htN (up tw n0 v0) (n0 + 1))) ((nI_add _ _).trans (by rw [ht_push])) ?_
    refine va_put (D := D) (ci := 1) (v := .int (nI (htN (up tw n0 v0) (n0 + 1)))) (ty := .int) (C := RX4) (T := TX4) (N := 4) hx hb hts i_X4 tyX4 tyX4_ok nmX4 hown hK hP hD hS 0 rfl rfl 3 (by decide) (hts _ u52) (fun _ h9 => h9) rfl (by decide +kernel) rfl rfl (Nat.le_of_ble_eq_true rfl) dX4_push_45 (fun H locs hP hD hS => ?_)
    have hP : va_P D zcl [(o, .inr (1, [.ref c1, .ref f1, .int (nI (n0 + 1)), .int (nI (htN (up tw n0 v0) (n0 + 1)))])), (c1, .inl (T 0, 60, .inl (fun k => nI (up tw n0 v0 k)))), (f1, .inl (T 0, 60, .inl (fun k => nI (fN (eig (up tw n0 v0 k))))))] H := hP
    have hD : va_D A [(o, .inr (1, [.ref c1, .ref f1, .int (nI (n0 + 1)), .int (nI (htN (up tw n0 v0) (n0 + 1)))])), (c1, .inl (T 0, 60, .inl (fun k => nI (up tw n0 v0 k)))), (f1, .inl (T 0, 60, .inl (fun k => nI (fN (eig (up tw n0 v0 k))))))] := hD
    exact zh_vret () hx hb hr hlocks dX4_push_48 hP hD hS (rfl)
  · exact absurd ((decide_eq_false (by omega)).symm.trans h1) (by decide)
set_option maxRecDepth 20000 in
theorem c_X4_pop (l : Launch) (D : va_G) (T : Nat → ClassId) (o c1 f1 : Nat) (tw : Nat → Nat) (n0 : Nat) (n1 : Nat) (hn : n1 < 60) : Hm l yX4_pop cX4_pop 1 (some FieldType.int) 1 0 0 D T [.ref o] [(o, .inr (1, [.ref c1, .ref f1, .int (nI (n1 + 1)), .int (nI (htN tw (n1 + 1)))])), (c1, .inl (T 0, 60, .inl (fun k => nI (tw k)))), (f1, .inl (T 0, 60, .inl (fun k => nI (fN (eig (tw k))))))] (some (.int (nI (tw n1)))) (fun _ : Unit => [(o, .inr (1, [.ref c1, .ref f1, .int (nI n1), .int (nI (htN tw n1))])), (c1, .inl (T 0, 60, .inl (fun k => nI (tw k)))), (f1, .inl (T 0, 60, .inl (fun k => nI (fN (eig (tw k))))))]) := by
  refine Hm.of (by decide) (Nat.le_of_ble_eq_true rfl) ?_
  intro zp ze s zm args below zmeth zc hx hb hr hml hown hin hts hlocks A hA hP hK hD hS ls hl
  have hl : lv_has ls 1 [(0, .ref o)] := hl
  refine lv_aload_n hx hb dX4_pop_0 rfl (lv_at hl 0 rfl) ?_
  refine zh_v (T := T) hx hb hml hown hts k_X4_27 (c_X4_isEmpty l D T o c1 f1 tw (n1 + 1) (by omega)) ⟨by decide, by decide⟩ rfl hl.1 [] rfl (Nat.le_of_ble_eq_true rfl) dX4_pop_1 ⟨Nat.le_of_ble_eq_true rfl, Nat.le_of_ble_eq_true rfl⟩ hK hP hD hS hA (ci := 1) rfl rfl rfl [0, 1, 2] [] (wr := []) rfl rfl (by decide) (by decide) (by decide) [0, 1, 2] (fun _ => [(o, .inr (1, [.ref c1, .ref f1, .int (nI (n1 + 1)), .int (nI (htN tw (n1 + 1)))])), (c1, .inl (T 0, 60, .inl (fun k => nI (tw k)))), (f1, .inl (T 0, 60, .inl (fun k => nI (fN (eig (tw k))))))]) (by decide) (fun _ => rfl) (fun _ H locs hP hD hS => ?_)
  have hP : va_P D zcl [(o, .inr (1, [.ref c1, .ref f1, .int (nI (n1 + 1)), .int (nI (htN tw (n1 + 1)))])), (c1, .inl (T 0, 60, .inl (fun k => nI (tw k)))), (f1, .inl (T 0, 60, .inl (fun k => nI (fN (eig (tw k))))))] H := hP
  have hD : va_D A [(o, .inr (1, [.ref c1, .ref f1, .int (nI (n1 + 1)), .int (nI (htN tw (n1 + 1)))])), (c1, .inl (T 0, 60, .inl (fun k => nI (tw k)))), (f1, .inl (T 0, 60, .inl (fun k => nI (fN (eig (tw k))))))] := hD
  refine zb_eq (tgt := 9) hx hb dX4_pop_4 (by decide) (fun h1 => ?_) (fun h1 => ?_)
  · refine lv_aload_n hx hb dX4_pop_9 rfl (lv_at hl 0 rfl) ?_
    refine lv_dup hx hb dX4_pop_10 rfl ?_
    refine va_get (D := D) (ci := 1) (v := .int (nI (n1 + 1))) (C := RX4) (T := TX4) (N := 4) hx hb hts i_X4 hown hK hP 0 rfl rfl 2 (by decide) (hts _ u51) (fun _ h9 => h9) rfl dX4_pop_11 ?_
    refine lv_iconst (v := 1) hx hb dX4_pop_14 (by decide) ?_
    refine lv_isub hx hb dX4_pop_15 ?_
    refine zf_i (x' := nI n1) (nI_pred n1) ?_
    refine va_put (D := D) (ci := 1) (v := .int (nI n1)) (ty := .int) (C := RX4) (T := TX4) (N := 4) hx hb hts i_X4 tyX4 tyX4_ok nmX4 hown hK hP hD hS 0 rfl rfl 2 (by decide) (hts _ u51) (fun _ h9 => h9) rfl (by decide +kernel) rfl rfl (Nat.le_of_ble_eq_true rfl) dX4_pop_16 (fun H locs hP hD hS => ?_)
    have hP : va_P D zcl [(o, .inr (1, [.ref c1, .ref f1, .int (nI n1), .int (nI (htN tw (n1 + 1)))])), (c1, .inl (T 0, 60, .inl (fun k => nI (tw k)))), (f1, .inl (T 0, 60, .inl (fun k => nI (fN (eig (tw k))))))] H := hP
    have hD : va_D A [(o, .inr (1, [.ref c1, .ref f1, .int (nI n1), .int (nI (htN tw (n1 + 1)))])), (c1, .inl (T 0, 60, .inl (fun k => nI (tw k)))), (f1, .inl (T 0, 60, .inl (fun k => nI (fN (eig (tw k))))))] := hD
    refine lv_aload_n hx hb dX4_pop_19 rfl (lv_at hl 0 rfl) ?_
    refine lv_dup hx hb dX4_pop_20 rfl ?_
    refine va_get (D := D) (ci := 1) (v := .int (nI (htN tw (n1 + 1)))) (C := RX4) (T := TX4) (N := 4) hx hb hts i_X4 hown hK hP 0 rfl rfl 3 (by decide) (hts _ u52) (fun _ h9 => h9) rfl dX4_pop_21 ?_
    refine lv_aload_n hx hb dX4_pop_24 rfl (lv_at hl 0 rfl) ?_
    refine va_get (D := D) (ci := 1) (v := .ref f1) (C := RX4) (T := TX4) (N := 4) hx hb hts i_X4 hown hK hP 0 rfl rfl 1 (by decide) (hts _ u50) (fun _ h9 => h9) rfl dX4_pop_25 ?_
    refine lv_aload_n hx hb dX4_pop_28 rfl (lv_at hl 0 rfl) ?_
    refine va_get (D := D) (ci := 1) (v := .int (nI n1)) (C := RX4) (T := TX4) (N := 4) hx hb hts i_X4 hown hK hP 0 rfl rfl 2 (by decide) (hts _ u51) (fun _ h9 => h9) rfl dX4_pop_29 ?_
    refine za_iald hx hb hK hP 2 rfl n1 (rfl) (by omega) (by decide) dX4_pop_32 ?_
    refine lv_isub hx hb dX4_pop_33 ?_
    refine zf_i (x' := nI (htN tw n1)) ((show nI (htN tw n1 + fN (eig (tw n1))) - nI (fN (eig (tw n1))) = _ by rw [pk_sub (by omega), Nat.add_sub_cancel])) ?_
    refine va_put (D := D) (ci := 1) (v := .int (nI (htN tw n1))) (ty := .int) (C := RX4) (T := TX4) (N := 4) hx hb hts i_X4 tyX4 tyX4_ok nmX4 hown hK hP hD hS 0 rfl rfl 3 (by decide) (hts _ u52) (fun _ h9 => h9) rfl (by decide +kernel) rfl rfl (Nat.le_of_ble_eq_true rfl) dX4_pop_34 (fun H locs hP hD hS => ?_)
    have hP : va_P D zcl [(o, .inr (1, [.ref c1, .ref f1, .int (nI n1), .int (nI (htN tw n1))])), (c1, .inl (T 0, 60, .inl (fun k => nI (tw k)))), (f1, .inl (T 0, 60, .inl (fun k => nI (fN (eig (tw k))))))] H := hP
    have hD : va_D A [(o, .inr (1, [.ref c1, .ref f1, .int (nI n1), .int (nI (htN tw n1))])), (c1, .inl (T 0, 60, .inl (fun k => nI (tw k)))), (f1, .inl (T 0, 60, .inl (fun k => nI (fN (eig (tw k))))))] := hD
    refine lv_aload_n hx hb dX4_pop_37 rfl (lv_at hl 0 rfl) ?_
    refine va_get (D := D) (ci := 1) (v := .ref c1) (C := RX4) (T := TX4) (N := 4) hx hb hts i_X4 hown hK hP 0 rfl rfl 0 (by decide) (hts _ u49) (fun _ h9 => h9) rfl dX4_pop_38 ?_
    refine lv_aload_n hx hb dX4_pop_41 rfl (lv_at hl 0 rfl) ?_
    refine va_get (D := D) (ci := 1) (v := .int (nI n1)) (C := RX4) (T := TX4) (N := 4) hx hb hts i_X4 hown hK hP 0 rfl rfl 2 (by decide) (hts _ u51) (fun _ h9 => h9) rfl dX4_pop_42 ?_
    refine za_iald hx hb hK hP 1 rfl n1 (rfl) (by omega) (by decide) dX4_pop_45 ?_
    exact zh_iret () hx hb hr hlocks dX4_pop_46 hP hD hS (rfl) (rfl)
  · exact absurd ((decide_eq_false (by omega)).symm.trans h1) (by decide)
set_option maxRecDepth 20000 in
theorem c_X4_clear (l : Launch) (D : va_G) (T : Nat → ClassId) (o c1 f1 : Nat) (tw : Nat → Nat) (n0 : Nat)  : Hm l yX4_clear cX4_clear 1 none 0 0 0 D T [.ref o] [(o, .inr (1, [.ref c1, .ref f1, .int (nI n0), .int (nI (htN tw n0))])), (c1, .inl (T 0, 60, .inl (fun k => nI (tw k)))), (f1, .inl (T 0, 60, .inl (fun k => nI (fN (eig (tw k))))))] none (fun _ : Unit => [(o, .inr (1, [.ref c1, .ref f1, .int (nI 0), .int (nI (htN tw 0))])), (c1, .inl (T 0, 60, .inl (fun k => nI (tw k)))), (f1, .inl (T 0, 60, .inl (fun k => nI (fN (eig (tw k))))))]) := by
  refine Hm.of (by decide) (Nat.le_of_ble_eq_true rfl) ?_
  intro zp ze s zm args below zmeth zc hx hb hr hml hown hin hts hlocks A hA hP hK hD hS ls hl
  have hl : lv_has ls 1 [(0, .ref o)] := hl
  refine lv_aload_n hx hb dX4_clear_0 rfl (lv_at hl 0 rfl) ?_
  refine lv_iconst (v := 0) hx hb dX4_clear_1 (by decide) ?_
  refine zf_i (x' := nI 0) (rfl) ?_
  refine va_put (D := D) (ci := 1) (v := .int (nI 0)) (ty := .int) (C := RX4) (T := TX4) (N := 4) hx hb hts i_X4 tyX4 tyX4_ok nmX4 hown hK hP hD hS 0 rfl rfl 2 (by decide) (hts _ u51) (fun _ h9 => h9) rfl (by decide +kernel) rfl rfl (Nat.le_of_ble_eq_true rfl) dX4_clear_2 (fun H locs hP hD hS => ?_)
  have hP : va_P D zcl [(o, .inr (1, [.ref c1, .ref f1, .int (nI 0), .int (nI (htN tw n0))])), (c1, .inl (T 0, 60, .inl (fun k => nI (tw k)))), (f1, .inl (T 0, 60, .inl (fun k => nI (fN (eig (tw k))))))] H := hP
  have hD : va_D A [(o, .inr (1, [.ref c1, .ref f1, .int (nI 0), .int (nI (htN tw n0))])), (c1, .inl (T 0, 60, .inl (fun k => nI (tw k)))), (f1, .inl (T 0, 60, .inl (fun k => nI (fN (eig (tw k))))))] := hD
  refine lv_aload_n hx hb dX4_clear_5 rfl (lv_at hl 0 rfl) ?_
  refine lv_iconst (v := 0) hx hb dX4_clear_6 (by decide) ?_
  refine zf_i (x' := nI (htN tw 0)) (rfl) ?_
  refine va_put (D := D) (ci := 1) (v := .int (nI (htN tw 0))) (ty := .int) (C := RX4) (T := TX4) (N := 4) hx hb hts i_X4 tyX4 tyX4_ok nmX4 hown hK hP hD hS 0 rfl rfl 3 (by decide) (hts _ u52) (fun _ h9 => h9) rfl (by decide +kernel) rfl rfl (Nat.le_of_ble_eq_true rfl) dX4_clear_7 (fun H locs hP hD hS => ?_)
  have hP : va_P D zcl [(o, .inr (1, [.ref c1, .ref f1, .int (nI 0), .int (nI (htN tw 0))])), (c1, .inl (T 0, 60, .inl (fun k => nI (tw k)))), (f1, .inl (T 0, 60, .inl (fun k => nI (fN (eig (tw k))))))] H := hP
  have hD : va_D A [(o, .inr (1, [.ref c1, .ref f1, .int (nI 0), .int (nI (htN tw 0))])), (c1, .inl (T 0, 60, .inl (fun k => nI (tw k)))), (f1, .inl (T 0, 60, .inl (fun k => nI (fN (eig (tw k))))))] := hD
  exact zh_vret () hx hb hr hlocks dX4_clear_10 hP hD hS (rfl)
set_option maxRecDepth 20000 in
theorem c_X4_uppermostFine (l : Launch) (D : va_G) (T : Nat → ClassId) (o c1 f1 : Nat) (tw : Nat → Nat) (n0 : Nat) (n1 : Nat) (hn : n1 < 60) : Hm l yX4_uppermostFine cX4_uppermostFine 1 (some FieldType.int) 1 0 0 D T [.ref o] [(o, .inr (1, [.ref c1, .ref f1, .int (nI (n1 + 1)), .int (nI (htN tw (n1 + 1)))])), (c1, .inl (T 0, 60, .inl (fun k => nI (tw k)))), (f1, .inl (T 0, 60, .inl (fun k => nI (fN (eig (tw k))))))] (some (.int (nI (fN (eig (tw n1)))))) (fun _ : Unit => [(o, .inr (1, [.ref c1, .ref f1, .int (nI (n1 + 1)), .int (nI (htN tw (n1 + 1)))])), (c1, .inl (T 0, 60, .inl (fun k => nI (tw k)))), (f1, .inl (T 0, 60, .inl (fun k => nI (fN (eig (tw k))))))]) := by
  refine Hm.of (by decide) (Nat.le_of_ble_eq_true rfl) ?_
  intro zp ze s zm args below zmeth zc hx hb hr hml hown hin hts hlocks A hA hP hK hD hS ls hl
  have hl : lv_has ls 1 [(0, .ref o)] := hl
  refine lv_aload_n hx hb dX4_uppermostFine_0 rfl (lv_at hl 0 rfl) ?_
  refine zh_v (T := T) hx hb hml hown hts k_X4_27 (c_X4_isEmpty l D T o c1 f1 tw (n1 + 1) (by omega)) ⟨by decide, by decide⟩ rfl hl.1 [] rfl (Nat.le_of_ble_eq_true rfl) dX4_uppermostFine_1 ⟨Nat.le_of_ble_eq_true rfl, Nat.le_of_ble_eq_true rfl⟩ hK hP hD hS hA (ci := 1) rfl rfl rfl [0, 1, 2] [] (wr := []) rfl rfl (by decide) (by decide) (by decide) [0, 1, 2] (fun _ => [(o, .inr (1, [.ref c1, .ref f1, .int (nI (n1 + 1)), .int (nI (htN tw (n1 + 1)))])), (c1, .inl (T 0, 60, .inl (fun k => nI (tw k)))), (f1, .inl (T 0, 60, .inl (fun k => nI (fN (eig (tw k))))))]) (by decide) (fun _ => rfl) (fun _ H locs hP hD hS => ?_)
  have hP : va_P D zcl [(o, .inr (1, [.ref c1, .ref f1, .int (nI (n1 + 1)), .int (nI (htN tw (n1 + 1)))])), (c1, .inl (T 0, 60, .inl (fun k => nI (tw k)))), (f1, .inl (T 0, 60, .inl (fun k => nI (fN (eig (tw k))))))] H := hP
  have hD : va_D A [(o, .inr (1, [.ref c1, .ref f1, .int (nI (n1 + 1)), .int (nI (htN tw (n1 + 1)))])), (c1, .inl (T 0, 60, .inl (fun k => nI (tw k)))), (f1, .inl (T 0, 60, .inl (fun k => nI (fN (eig (tw k))))))] := hD
  refine zb_eq (tgt := 11) hx hb dX4_uppermostFine_4 (by decide) (fun h1 => ?_) (fun h1 => ?_)
  · refine lv_aload_n hx hb dX4_uppermostFine_11 rfl (lv_at hl 0 rfl) ?_
    refine va_get (D := D) (ci := 1) (v := .ref f1) (C := RX4) (T := TX4) (N := 4) hx hb hts i_X4 hown hK hP 0 rfl rfl 1 (by decide) (hts _ u50) (fun _ h9 => h9) rfl dX4_uppermostFine_12 ?_
    refine lv_aload_n hx hb dX4_uppermostFine_15 rfl (lv_at hl 0 rfl) ?_
    refine va_get (D := D) (ci := 1) (v := .int (nI (n1 + 1))) (C := RX4) (T := TX4) (N := 4) hx hb hts i_X4 hown hK hP 0 rfl rfl 2 (by decide) (hts _ u51) (fun _ h9 => h9) rfl dX4_uppermostFine_16 ?_
    refine lv_iconst (v := 1) hx hb dX4_uppermostFine_19 (by decide) ?_
    refine lv_isub hx hb dX4_uppermostFine_20 ?_
    refine zf_i (x' := nI n1) (nI_pred n1) ?_
    refine za_iald hx hb hK hP 2 rfl n1 (rfl) (by omega) (by decide) dX4_uppermostFine_21 ?_
    exact zh_iret () hx hb hr hlocks dX4_uppermostFine_22 hP hD hS (rfl) (rfl)
  · exact absurd ((decide_eq_false (by omega)).symm.trans h1) (by decide)
set_option maxRecDepth 20000 in
theorem c_X4_cubesWithin (l : Launch) (D : va_G) (T : Nat → ClassId) (o c1 f1 : Nat) (tw : Nat → Nat) (n0 : Nat) (x : Int32) (hn : n0 ≤ 60) : Hm l yX4_cubesWithin cX4_cubesWithin 4 (some FieldType.int) 0 0 0 D T [.ref o, .int x] [(o, .inr (1, [.ref c1, .ref f1, .int (nI n0), .int (nI (htN tw n0))])), (c1, .inl (T 0, 60, .inl (fun k => nI (tw k)))), (f1, .inl (T 0, 60, .inl (fun k => nI (fN (eig (tw k))))))] (some (.int (nI (unN tw x n0)))) (fun _ : Unit => [(o, .inr (1, [.ref c1, .ref f1, .int (nI n0), .int (nI (htN tw n0))])), (c1, .inl (T 0, 60, .inl (fun k => nI (tw k)))), (f1, .inl (T 0, 60, .inl (fun k => nI (fN (eig (tw k))))))]) := by
  refine Hm.of (by decide) (Nat.le_of_ble_eq_true rfl) ?_
  intro zp ze s zm args below zmeth zc hx hb hr hml hown hin hts hlocks A hA hP hK hD hS ls hl
  have hl : lv_has ls 4 [(0, .ref o), (1, .int x)] := hl
  refine lv_iconst (v := 0) hx hb dX4_cubesWithin_0 (by decide) ?_
  refine lv_istore_n (lv' := [(2, .int 0), (0, .ref o), (1, .int x)]) hx hb dX4_cubesWithin_1 rfl hl (by decide) rfl (fun ls hl => ?_)
  refine lv_iconst (v := 0) hx hb dX4_cubesWithin_2 (by decide) ?_
  refine lv_istore_n (lv' := [(3, .int 0), (2, .int 0), (0, .ref o), (1, .int x)]) hx hb dX4_cubesWithin_3 rfl hl (by decide) rfl (fun ls hl => ?_)
  have lp : ∀ (n : Nat) (j : Nat), j + n = n0 → unN tw x j = j → ∀ (H : Heap) (locs : List Loc), va_P D zcl [(o, .inr (1, [.ref c1, .ref f1, .int (nI n0), .int (nI (htN tw n0))])), (c1, .inl (T 0, 60, .inl (fun k => nI (tw k)))), (f1, .inl (T 0, 60, .inl (fun k => nI (fN (eig (tw k))))))] H → va_D A [(o, .inr (1, [.ref c1, .ref f1, .int (nI n0), .int (nI (htN tw n0))])), (c1, .inl (T 0, 60, .inl (fun k => nI (tw k)))), (f1, .inl (T 0, 60, .inl (fun k => nI (fN (eig (tw k))))))] → va_S A s.heap H locs → ∀ ls : Array Slot, lv_has ls 4 [(0, .ref o), (1, .int x), (2, .int (nI (htN tw j))), (3, .int (nI j))] → W zp l ze (zR 0 0 0) s zm args below zmeth zc H locs 0 0 (MQ below (zQh D A (some (.int (nI (unN tw x n0)))) (fun _ : Unit => [(o, .inr (1, [.ref c1, .ref f1, .int (nI n0), .int (nI (htN tw n0))])), (c1, .inl (T 0, 60, .inl (fun k => nI (tw k)))), (f1, .inl (T 0, 60, .inl (fun k => nI (fN (eig (tw k))))))])) args s 0 0 A) (F0 zm 4 ls []) := by
    intro n
    induction n with
    | zero =>
      intro j hj hu H locs hP hD hS ls hl
      have hjk : j = n0 := by omega
      refine lv_iload_n hx hb dX4_cubesWithin_4 rfl (lv_at hl 3 rfl) ?_
      refine lv_aload_n hx hb dX4_cubesWithin_5 rfl (lv_at hl 0 rfl) ?_
      refine va_get (D := D) (ci := 1) (v := .int (nI n0)) (C := RX4) (T := TX4) (N := 4) hx hb hts i_X4 hown hK hP 0 rfl rfl 2 (by decide) (hts _ u51) (fun _ h9 => h9) rfl dX4_cubesWithin_6 ?_
      refine lv_icmp_ge (tgt := 34) hx hb dX4_cubesWithin_9 (by decide) (fun h1 => ?_) (fun h1 => ?_)
      · refine lv_aload_n hx hb dX4_cubesWithin_34 rfl (lv_at hl 0 rfl) ?_
        refine va_get (D := D) (ci := 1) (v := .int (nI n0)) (C := RX4) (T := TX4) (N := 4) hx hb hts i_X4 hown hK hP 0 rfl rfl 2 (by decide) (hts _ u51) (fun _ h9 => h9) rfl dX4_cubesWithin_35 ?_
        exact zh_iret () hx hb hr hlocks dX4_cubesWithin_38 hP hD hS (by rw [← hjk, hu]) (rfl)
      · exact absurd (nI_le (by omega) (by omega)) h1
    | succ n ih =>
      intro j hj hu H locs hP hD hS ls hl
      have hj9 : j < n0 := by omega
      have hl1 := htN_lt tw (j + 1)
      refine lv_iload_n hx hb dX4_cubesWithin_4 rfl (lv_at hl 3 rfl) ?_
      refine lv_aload_n hx hb dX4_cubesWithin_5 rfl (lv_at hl 0 rfl) ?_
      refine va_get (D := D) (ci := 1) (v := .int (nI n0)) (C := RX4) (T := TX4) (N := 4) hx hb hts i_X4 hown hK hP 0 rfl rfl 2 (by decide) (hts _ u51) (fun _ h9 => h9) rfl dX4_cubesWithin_6 ?_
      refine lv_icmp_ge (tgt := 34) hx hb dX4_cubesWithin_9 (by decide) (fun h2 => ?_) (fun h2 => ?_)
      · exact absurd h2 (nI_ge (by omega) (by omega))
      · refine lv_iload_n hx hb dX4_cubesWithin_12 rfl (lv_at hl 2 rfl) ?_
        refine lv_aload_n hx hb dX4_cubesWithin_13 rfl (lv_at hl 0 rfl) ?_
        refine va_get (D := D) (ci := 1) (v := .ref f1) (C := RX4) (T := TX4) (N := 4) hx hb hts i_X4 hown hK hP 0 rfl rfl 1 (by decide) (hts _ u50) (fun _ h9 => h9) rfl dX4_cubesWithin_14 ?_
        refine lv_iload_n hx hb dX4_cubesWithin_17 rfl (lv_at hl 3 rfl) ?_
        refine za_iald hx hb hK hP 2 rfl j (rfl) (by omega) (by decide) dX4_cubesWithin_18 ?_
        refine lv_iadd hx hb dX4_cubesWithin_19 ?_
        refine zf_i (x' := nI (htN tw (j + 1))) (nI_add _ _) ?_
        refine lv_istore_n (lv' := [(2, .int (nI (htN tw (j + 1)))), (0, .ref o), (1, .int x), (3, .int (nI j))]) hx hb dX4_cubesWithin_20 rfl hl (by decide) rfl (fun ls hl => ?_)
        refine lv_iload_n hx hb dX4_cubesWithin_21 rfl (lv_at hl 0 rfl) ?_
        refine lv_iload_n hx hb dX4_cubesWithin_22 rfl (lv_at hl 2 rfl) ?_
        refine lv_icmp_le (tgt := 28) hx hb dX4_cubesWithin_23 (by decide) (fun h3 => ?_) (fun h3 => ?_)
        · refine lv_iinc (v := (nI (j + 1))) (lv' := [(3, .int (nI (j + 1))), (2, .int (nI (htN tw (j + 1)))), (0, .ref o), (1, .int x)]) hx hb dX4_cubesWithin_28 hl (k := 3) rfl (nI_1 j) (by decide) rfl (fun ls hl => ?_)
          refine lv_goto (tgt := 4) hx hb dX4_cubesWithin_31 (by decide) ?_
          exact ih (j + 1) (by omega) (by rw [unN, if_neg (fun q => absurd h3 (Int32.not_le.mpr ((un_lt (by omega)).mpr q)))]) _ _ hP hD hS ls (lv_sub hl [2, 3, 1, 0] rfl)
        · refine lv_iload_n hx hb dX4_cubesWithin_26 rfl (lv_at hl 3 rfl) ?_
          exact zh_iret () hx hb hr hlocks dX4_cubesWithin_27 hP hD hS (by rw [show n0 = j + 1 + (n0 - (j + 1)) by omega, unN_stop ((un_lt (by omega)).mp (Int32.not_le.mp h3)) _ (by omega), hu]) (rfl)
  exact lp n0 0 (by omega) rfl _ _ hP hD hS ls (lv_sub hl [2, 3, 1, 0] rfl)
set_option maxRecDepth 20000 in
theorem c_X4_eighths (l : Launch) (D : va_G) (T : Nat → ClassId) (o c1 f1 : Nat) (tw : Nat → Nat) (n0 : Nat) (hn : n0 ≤ 60) (ht : ∀ k, tw k < 262144)  : Hm l yX4_eighths cX4_eighths 4 (some FieldType.long) 2 0 0 D T [.ref o] [(o, .inr (1, [.ref c1, .ref f1, .int (nI n0), .int (nI (htN tw n0))])), (c1, .inl (T 0, 60, .inl (fun k => nI (tw k)))), (f1, .inl (T 0, 60, .inl (fun k => nI (fN (eig (tw k))))))] (some (.long (lN (egN tw n0)))) (fun _ : Unit => [(o, .inr (1, [.ref c1, .ref f1, .int (nI n0), .int (nI (htN tw n0))])), (c1, .inl (T 0, 60, .inl (fun k => nI (tw k)))), (f1, .inl (T 0, 60, .inl (fun k => nI (fN (eig (tw k))))))]) := by
  refine Hm.of (by decide) (Nat.le_of_ble_eq_true rfl) ?_
  intro zp ze s zm args below zmeth zc hx hb hr hml hown hin hts hlocks A hA hP hK hD hS ls hl
  have hl : lv_has ls 4 [(0, .ref o)] := hl
  refine lv_lconst (v := 0) hx hb dX4_eighths_0 (by decide) ?_
  refine lv_lstore_n (lv' := [(1, .long 0), (0, .ref o)]) hx hb dX4_eighths_1 rfl hl (by decide) rfl (fun ls hl => ?_)
  refine lv_iconst (v := 0) hx hb dX4_eighths_2 (by decide) ?_
  refine lv_istore_n (lv' := [(3, .int 0), (1, .long 0), (0, .ref o)]) hx hb dX4_eighths_3 rfl hl (by decide) rfl (fun ls hl => ?_)
  have lp : ∀ (n : Nat) (j : Nat), j + n = n0 → ∀ (H : Heap) (locs : List Loc), va_P D zcl [(o, .inr (1, [.ref c1, .ref f1, .int (nI n0), .int (nI (htN tw n0))])), (c1, .inl (T 0, 60, .inl (fun k => nI (tw k)))), (f1, .inl (T 0, 60, .inl (fun k => nI (fN (eig (tw k))))))] H → va_D A [(o, .inr (1, [.ref c1, .ref f1, .int (nI n0), .int (nI (htN tw n0))])), (c1, .inl (T 0, 60, .inl (fun k => nI (tw k)))), (f1, .inl (T 0, 60, .inl (fun k => nI (fN (eig (tw k))))))] → va_S A s.heap H locs → ∀ ls : Array Slot, lv_has ls 4 [(0, .ref o), (1, .long (lN (egN tw j))), (3, .int (nI j))] → W zp l ze (zR 2 0 0) s zm args below zmeth zc H locs 0 0 (MQ below (zQh D A (some (.long (lN (egN tw n0)))) (fun _ : Unit => [(o, .inr (1, [.ref c1, .ref f1, .int (nI n0), .int (nI (htN tw n0))])), (c1, .inl (T 0, 60, .inl (fun k => nI (tw k)))), (f1, .inl (T 0, 60, .inl (fun k => nI (fN (eig (tw k))))))])) args s 0 0 A) (F0 zm 4 ls []) := by
    intro n
    induction n with
    | zero =>
      intro j hj H locs hP hD hS ls hl
      have hjk : j = n0 := by omega
      refine lv_iload_n hx hb dX4_eighths_4 rfl (lv_at hl 2 rfl) ?_
      refine lv_aload_n hx hb dX4_eighths_5 rfl (lv_at hl 0 rfl) ?_
      refine va_get (D := D) (ci := 1) (v := .int (nI n0)) (C := RX4) (T := TX4) (N := 4) hx hb hts i_X4 hown hK hP 0 rfl rfl 2 (by decide) (hts _ u51) (fun _ h9 => h9) rfl dX4_eighths_6 ?_
      refine lv_icmp_ge (tgt := 31) hx hb dX4_eighths_9 (by decide) (fun h1 => ?_) (fun h1 => ?_)
      · refine lv_lload_n hx hb dX4_eighths_31 rfl (lv_at hl 1 rfl) ?_
        exact zh_lret () hx hb hr hlocks dX4_eighths_32 hP hD hS (by rw [hjk]) (rfl)
      · exact absurd (nI_le (by omega) (by omega)) h1
    | succ n ih =>
      intro j hj H locs hP hD hS ls hl
      have hj9 : j < n0 := by omega
      have hl1 := eig_lt (ht j)
      refine lv_iload_n hx hb dX4_eighths_4 rfl (lv_at hl 2 rfl) ?_
      refine lv_aload_n hx hb dX4_eighths_5 rfl (lv_at hl 0 rfl) ?_
      refine va_get (D := D) (ci := 1) (v := .int (nI n0)) (C := RX4) (T := TX4) (N := 4) hx hb hts i_X4 hown hK hP 0 rfl rfl 2 (by decide) (hts _ u51) (fun _ h9 => h9) rfl dX4_eighths_6 ?_
      refine lv_icmp_ge (tgt := 31) hx hb dX4_eighths_9 (by decide) (fun h2 => ?_) (fun h2 => ?_)
      · exact absurd h2 (nI_ge (by omega) (by omega))
      · refine lv_lload_n hx hb dX4_eighths_12 rfl (lv_at hl 1 rfl) ?_
        refine lv_aload_n hx hb dX4_eighths_13 rfl (lv_at hl 0 rfl) ?_
        refine va_get (D := D) (ci := 1) (v := .ref c1) (C := RX4) (T := TX4) (N := 4) hx hb hts i_X4 hown hK hP 0 rfl rfl 0 (by decide) (hts _ u49) (fun _ h9 => h9) rfl dX4_eighths_14 ?_
        refine lv_iload_n hx hb dX4_eighths_17 rfl (lv_at hl 2 rfl) ?_
        refine za_iald hx hb hK hP 1 rfl j (rfl) (by omega) (by decide) dX4_eighths_18 ?_
        refine zp_call hx hb hml hown hts k_X4_32 (c_X5_eighthsOf l (nI (tw j))) ⟨by decide, by decide⟩ rfl hl.1 [.long (lN (egN tw j))] rfl (Nat.le_of_ble_eq_true rfl) dX4_eighths_19 ⟨Nat.le_of_ble_eq_true rfl, Nat.le_of_ble_eq_true rfl⟩ ?_
        refine zf_i (x' := nI (eig (tw j))) (mv_eig (ht j)) ?_
        refine lv_i2l hx hb dX4_eighths_22 rfl ?_
        refine zf_l (x' := lN (eig (tw j))) (nI_l (by omega)) ?_
        refine lv_ladd hx hb dX4_eighths_23 ?_
        refine zf_l (x' := lN (egN tw (j + 1))) (lN_add _ _) ?_
        refine lv_lstore_n (lv' := [(1, .long (lN (egN tw (j + 1)))), (0, .ref o), (3, .int (nI j))]) hx hb dX4_eighths_24 rfl hl (by decide) rfl (fun ls hl => ?_)
        refine lv_iinc (v := (nI (j + 1))) (lv' := [(3, .int (nI (j + 1))), (1, .long (lN (egN tw (j + 1)))), (0, .ref o)]) hx hb dX4_eighths_25 hl (k := 2) rfl (nI_1 j) (by decide) rfl (fun ls hl => ?_)
        refine lv_goto (tgt := 4) hx hb dX4_eighths_28 (by decide) ?_
        exact ih (j + 1) (by omega) _ _ hP hD hS ls (lv_sub hl [2, 1, 0] rfl)
  exact lp n0 0 (by omega) _ _ hP hD hS ls (lv_sub hl [2, 1, 0] rfl)
set_option maxRecDepth 20000 in
theorem c_X4_checksumAfter (l : Launch) (D : va_G) (T : Nat → ClassId) (o c1 f1 : Nat) (tw : Nat → Nat) (n0 : Nat) (a0 : Int64) (hn : n0 ≤ 60) (ht : ∀ k, tw k < 262144) (hb0 : ∀ k, k < n0 → isB (tw k) = false)  : Hm l yX4_checksumAfter cX4_checksumAfter 6 (some FieldType.long) 3 0 0 D T [.ref o, .long a0] [(o, .inr (1, [.ref c1, .ref f1, .int (nI n0), .int (nI (htN tw n0))])), (c1, .inl (T 0, 60, .inl (fun k => nI (tw k)))), (f1, .inl (T 0, 60, .inl (fun k => nI (fN (eig (tw k))))))] (some (.long (ckT (31 * a0 + lN n0) tw n0))) (fun _ : Unit => [(o, .inr (1, [.ref c1, .ref f1, .int (nI n0), .int (nI (htN tw n0))])), (c1, .inl (T 0, 60, .inl (fun k => nI (tw k)))), (f1, .inl (T 0, 60, .inl (fun k => nI (fN (eig (tw k))))))]) := by
  refine Hm.of (by decide) (Nat.le_of_ble_eq_true rfl) ?_
  intro zp ze s zm args below zmeth zc hx hb hr hml hown hin hts hlocks A hA hP hK hD hS ls hl
  have hl : lv_has ls 6 [(0, .ref o), (1, .long a0)] := hl
  refine lv_ldc2 hx hb hown (hts _ u189) dX4_checksumAfter_0 ?_
  refine lv_lload_n hx hb dX4_checksumAfter_3 rfl (lv_at hl 1 rfl) ?_
  refine lv_lmul hx hb dX4_checksumAfter_4 ?_
  refine lv_aload_n hx hb dX4_checksumAfter_5 rfl (lv_at hl 0 rfl) ?_
  refine va_get (D := D) (ci := 1) (v := .int (nI n0)) (C := RX4) (T := TX4) (N := 4) hx hb hts i_X4 hown hK hP 0 rfl rfl 2 (by decide) (hts _ u51) (fun _ h9 => h9) rfl dX4_checksumAfter_6 ?_
  refine lv_i2l hx hb dX4_checksumAfter_9 rfl ?_
  refine zf_l (x' := lN n0) (nI_l (by omega)) ?_
  refine lv_ladd hx hb dX4_checksumAfter_10 ?_
  refine lv_lstore_n (lv' := [(3, .long ((31 * a0) + (lN n0))), (0, .ref o), (1, .long a0)]) hx hb dX4_checksumAfter_11 rfl hl (by decide) rfl (fun ls hl => ?_)
  refine lv_iconst (v := 0) hx hb dX4_checksumAfter_12 (by decide) ?_
  refine lv_istore (lv' := [(5, .int 0), (3, .long ((31 * a0) + (lN n0))), (0, .ref o), (1, .long a0)]) hx hb dX4_checksumAfter_13 hl (by decide) rfl (fun ls hl => ?_)
  have lp : ∀ (n : Nat) (j : Nat), j + n = n0 → ∀ (H : Heap) (locs : List Loc), va_P D zcl [(o, .inr (1, [.ref c1, .ref f1, .int (nI n0), .int (nI (htN tw n0))])), (c1, .inl (T 0, 60, .inl (fun k => nI (tw k)))), (f1, .inl (T 0, 60, .inl (fun k => nI (fN (eig (tw k))))))] H → va_D A [(o, .inr (1, [.ref c1, .ref f1, .int (nI n0), .int (nI (htN tw n0))])), (c1, .inl (T 0, 60, .inl (fun k => nI (tw k)))), (f1, .inl (T 0, 60, .inl (fun k => nI (fN (eig (tw k))))))] → va_S A s.heap H locs → ∀ ls : Array Slot, lv_has ls 6 [(0, .ref o), (3, .long (ckT (31 * a0 + lN n0) tw j)), (5, .int (nI j))] → W zp l ze (zR 3 0 0) s zm args below zmeth zc H locs 0 0 (MQ below (zQh D A (some (.long (ckT (31 * a0 + lN n0) tw n0))) (fun _ : Unit => [(o, .inr (1, [.ref c1, .ref f1, .int (nI n0), .int (nI (htN tw n0))])), (c1, .inl (T 0, 60, .inl (fun k => nI (tw k)))), (f1, .inl (T 0, 60, .inl (fun k => nI (fN (eig (tw k))))))])) args s 0 0 A) (F0 zm 15 ls []) := by
    intro n
    induction n with
    | zero =>
      intro j hj H locs hP hD hS ls hl
      have hjk : j = n0 := by omega
      refine lv_iload hx hb dX4_checksumAfter_15 (lv_at hl 2 rfl) ?_
      refine lv_aload_n hx hb dX4_checksumAfter_17 rfl (lv_at hl 0 rfl) ?_
      refine va_get (D := D) (ci := 1) (v := .int (nI n0)) (C := RX4) (T := TX4) (N := 4) hx hb hts i_X4 hown hK hP 0 rfl rfl 2 (by decide) (hts _ u51) (fun _ h9 => h9) rfl dX4_checksumAfter_18 ?_
      refine lv_icmp_ge (tgt := 66) hx hb dX4_checksumAfter_21 (by decide) (fun h1 => ?_) (fun h1 => ?_)
      · refine lv_lload_n hx hb dX4_checksumAfter_66 rfl (lv_at hl 1 rfl) ?_
        exact zh_lret () hx hb hr hlocks dX4_checksumAfter_67 hP hD hS (by rw [hjk]) (rfl)
      · exact absurd (nI_le (by omega) (by omega)) h1
    | succ n ih =>
      intro j hj H locs hP hD hS ls hl
      have hj9 : j < n0 := by omega
      have hl1 := eig_lt (ht j)
      have hb9 := hb0 j hj9
      refine lv_iload hx hb dX4_checksumAfter_15 (lv_at hl 2 rfl) ?_
      refine lv_aload_n hx hb dX4_checksumAfter_17 rfl (lv_at hl 0 rfl) ?_
      refine va_get (D := D) (ci := 1) (v := .int (nI n0)) (C := RX4) (T := TX4) (N := 4) hx hb hts i_X4 hown hK hP 0 rfl rfl 2 (by decide) (hts _ u51) (fun _ h9 => h9) rfl dX4_checksumAfter_18 ?_
      refine lv_icmp_ge (tgt := 66) hx hb dX4_checksumAfter_21 (by decide) (fun h2 => ?_) (fun h2 => ?_)
      · exact absurd h2 (nI_ge (by omega) (by omega))
      · refine lv_ldc2 hx hb hown (hts _ u189) dX4_checksumAfter_24 ?_
        refine lv_lload_n hx hb dX4_checksumAfter_27 rfl (lv_at hl 1 rfl) ?_
        refine lv_lmul hx hb dX4_checksumAfter_28 ?_
        refine lv_aload_n hx hb dX4_checksumAfter_29 rfl (lv_at hl 0 rfl) ?_
        refine va_get (D := D) (ci := 1) (v := .ref c1) (C := RX4) (T := TX4) (N := 4) hx hb hts i_X4 hown hK hP 0 rfl rfl 0 (by decide) (hts _ u49) (fun _ h9 => h9) rfl dX4_checksumAfter_30 ?_
        refine lv_iload hx hb dX4_checksumAfter_33 (lv_at hl 2 rfl) ?_
        refine za_iald hx hb hK hP 1 rfl j (rfl) (by omega) (by decide) dX4_checksumAfter_35 ?_
        refine zp_call hx hb hml hown hts k_X4_38 (c_X5_signedOf l (nI (tw j))) ⟨by decide, by decide⟩ rfl hl.1 [.long (31 * (ckT (31 * a0 + lN n0) tw j))] rfl (Nat.le_of_ble_eq_true rfl) dX4_checksumAfter_36 ⟨Nat.le_of_ble_eq_true rfl, Nat.le_of_ble_eq_true rfl⟩ ?_
        refine zf_i (x' := nI (eig (tw j))) ((mv_signed (ht j)).trans (sg_above hb9)) ?_
        refine lv_i2l hx hb dX4_checksumAfter_39 rfl ?_
        refine zf_l (x' := lN (eig (tw j))) (nI_l (by omega)) ?_
        refine lv_ladd hx hb dX4_checksumAfter_40 ?_
        refine lv_lstore_n (lv' := [(3, .long ((31 * (ckT (31 * a0 + lN n0) tw j)) + (lN (eig (tw j))))), (0, .ref o), (5, .int (nI j))]) hx hb dX4_checksumAfter_41 rfl hl (by decide) rfl (fun ls hl => ?_)
        refine lv_ldc2 hx hb hown (hts _ u189) dX4_checksumAfter_42 ?_
        refine lv_lload_n hx hb dX4_checksumAfter_45 rfl (lv_at hl 0 rfl) ?_
        refine lv_lmul hx hb dX4_checksumAfter_46 ?_
        refine lv_aload_n hx hb dX4_checksumAfter_47 rfl (lv_at hl 1 rfl) ?_
        refine va_get (D := D) (ci := 1) (v := .ref c1) (C := RX4) (T := TX4) (N := 4) hx hb hts i_X4 hown hK hP 0 rfl rfl 0 (by decide) (hts _ u49) (fun _ h9 => h9) rfl dX4_checksumAfter_48 ?_
        refine lv_iload hx hb dX4_checksumAfter_51 (lv_at hl 2 rfl) ?_
        refine za_iald hx hb hK hP 1 rfl j (rfl) (by omega) (by decide) dX4_checksumAfter_53 ?_
        refine zp_call hx hb hml hown hts k_X4_41 (c_X5_kindOf l (nI (tw j))) ⟨by decide, by decide⟩ rfl hl.1 [.long (31 * ((31 * (ckT (31 * a0 + lN n0) tw j)) + (lN (eig (tw j)))))] rfl (Nat.le_of_ble_eq_true rfl) dX4_checksumAfter_54 ⟨Nat.le_of_ble_eq_true rfl, Nat.le_of_ble_eq_true rfl⟩ ?_
        refine zf_i (x' := nI (tw j % 4)) (mv_kind _) ?_
        refine lv_i2l hx hb dX4_checksumAfter_57 rfl ?_
        refine zf_l (x' := lN (tw j % 4)) (nI_l (by omega)) ?_
        refine lv_ladd hx hb dX4_checksumAfter_58 ?_
        refine zf_l (x' := ckT (31 * a0 + lN n0) tw (j + 1)) ((show _ = ckC _ _ by rw [kd_above hb9]; rfl)) ?_
        refine lv_lstore_n (lv' := [(3, .long (ckT (31 * a0 + lN n0) tw (j + 1))), (0, .ref o), (5, .int (nI j))]) hx hb dX4_checksumAfter_59 rfl hl (by decide) rfl (fun ls hl => ?_)
        refine lv_iinc (v := (nI (j + 1))) (lv' := [(5, .int (nI (j + 1))), (3, .long (ckT (31 * a0 + lN n0) tw (j + 1))), (0, .ref o)]) hx hb dX4_checksumAfter_60 hl (k := 2) rfl (nI_1 j) (by decide) rfl (fun ls hl => ?_)
        refine lv_goto (tgt := 15) hx hb dX4_checksumAfter_63 (by decide) ?_
        exact ih (j + 1) (by omega) _ _ hP hD hS ls (lv_sub hl [2, 1, 0] rfl)
  exact lp n0 0 (by omega) _ _ hP hD hS ls (lv_sub hl [2, 1, 0] rfl)
