/-! The reference: sorting, bits. -/
def cpN (i : Nat) (f : Nat → Nat) (k : Nat) : Nat := if k < i then f k else 0
def cpB (i : Nat) (f : Nat → Bool) (k : Nat) : Bool := if k < i then f k else false
def rkA (yv : Nat → Nat) (i j k : Nat) : Nat := if k < i then rkN yv k 8 else if k = i then rkN yv i j else 0
theorem cpN_up (f : Nat → Nat) (i k : Nat) : (if k = i then nI (f i) else nI (cpN i f k)) = nI (cpN (i + 1) f k) := by
  unfold cpN
  by_cases h : k = i
  · subst h
    rw [if_pos rfl, if_pos (by omega)]
  · rw [if_neg h]
    by_cases h2 : k < i
    · rw [if_pos h2, if_pos (by omega)]
    · rw [if_neg h2, if_neg (by omega)]
theorem cpB_up (f : Nat → Bool) (i k : Nat) : (if k = i then bI (f i) else bI (cpB i f k)) = bI (cpB (i + 1) f k) := by
  unfold cpB
  by_cases h : k = i
  · subst h
    rw [if_pos rfl, if_pos (by omega)]
  · rw [if_neg h]
    by_cases h2 : k < i
    · rw [if_pos h2, if_pos (by omega)]
    · rw [if_neg h2, if_neg (by omega)]
theorem rkA_i (yv : Nat → Nat) (i j : Nat) : rkA yv i j i = rkN yv i j := by unfold rkA; rw [if_neg (Nat.lt_irrefl i), if_pos rfl]
theorem rkA_s (yv : Nat → Nat) (i j k : Nat) : (if k = i then nI (rkN yv i (j + 1)) else nI (rkA yv i j k)) = nI (rkA yv i (j + 1) k) := by
  unfold rkA
  by_cases h : k = i
  · subst h
    rw [if_pos rfl, if_neg (Nat.lt_irrefl k), if_pos rfl]
  · rw [if_neg h, if_neg h]
    rw [if_neg h]
theorem rkA_up (yv : Nat → Nat) (i : Nat) : (fun k => nI (rkA yv i 8 k)) = (fun k => nI (rkA yv (i + 1) 0 k)) := by
  funext k
  unfold rkA
  congr 1
  by_cases h : k < i
  · rw [if_pos h, if_pos (by omega)]
  · rw [if_neg h]
    by_cases h2 : k = i
    · subst h2
      rw [if_pos rfl, if_pos (by omega)]
    · rw [if_neg h2, if_neg (by omega)]
      split <;> rfl
theorem rkA_8 {yv : Nat → Nat} {i : Nat} (h : i < 8) : rkA yv 8 0 i = rkN yv i 8 := by unfold rkA; rw [if_pos h]
theorem cpN_0 (f : Nat → Nat) (k : Nat) : nI (cpN 0 f k) = 0 := by rw [cpN, if_neg (Nat.not_lt_zero k)]; rfl
theorem cpB_0 (f : Nat → Bool) (k : Nat) : bI (cpB 0 f k) = 0 := by rw [cpB, if_neg (Nat.not_lt_zero k)]; rfl
theorem rkA_0 (yv : Nat → Nat) (k : Nat) : nI (rkA yv 0 0 k) = 0 := by
  unfold rkA
  rw [if_neg (Nat.not_lt_zero k)]
  split <;> rfl
theorem hv_ok {e : Nat} (h : exB e = true) : hvI e = nI (rt e) := by
  unfold exB at h
  by_cases q : hvI e < 0
  · rw [if_pos q] at h
    exact absurd h (by decide)
  · unfold hvI at q ⊢
    split
    · rfl
    · rename_i h2
      rw [if_neg h2] at q
      exact absurd (by decide) q
theorem hv_no {e : Nat} (h : exB e = false) : ¬ 0 ≤ hvI e := by
  unfold exB at h
  by_cases q : hvI e < 0
  · exact Int32.not_le.mpr q
  · rw [if_neg q] at h
    exact absurd h (by decide)
theorem log_le {r : Nat} (h : r < 65536) (h0 : 0 < r) : r.log2 ≤ 15 := by
  have h1 := Nat.log2_self_le (by omega : r ≠ 0)
  refine Nat.le_of_lt_succ ((Nat.pow_lt_pow_iff_right (by decide : 1 < 2)).mp (Nat.lt_of_le_of_lt h1 h))
theorem log_hi {r k : Nat} (h0 : 0 < r) (h : k < r.log2) : 1 < r / 2 ^ k := by
  have h1 := Nat.log2_self_le (by omega : r ≠ 0)
  have h2 : 2 ^ (k + 1) ≤ 2 ^ r.log2 := Nat.pow_le_pow_right (by decide) h
  rw [Nat.pow_succ] at h2
  have hp : 0 < 2 ^ k := Nat.pow_pos (by decide)
  exact (Nat.le_div_iff_mul_le hp).mpr (by omega)
theorem log_lo {r : Nat} (h0 : 0 < r) : r / 2 ^ r.log2 ≤ 1 := by
  have h1 : r < 2 ^ (r.log2 + 1) := Nat.lt_log2_self
  rw [Nat.pow_succ] at h1
  exact Nat.le_of_lt_succ (Nat.div_lt_of_lt_mul (by omega))
theorem sh_r {r k : Nat} (hr : r < 65536) (hk : k < 32) : nI r >>> (nI k &&& 31) = nI (r / 2 ^ k) := pk_shrN (by omega) _ k (by
  have : ∀ j : Fin 32, ((nI j.val &&& 31).toBitVec.smod 32).toNat = j.val := by decide
  exact this ⟨k, hk⟩)
set_option maxRecDepth 20000 in
theorem c_X8_sort (l : Launch) (D : va_G) (T : Nat → ClassId) (q a1 a2 a3 a4 a5 : Nat) (yv tw : Nat → Nat) (n0 : Nat) (nc : Int32) (ne : Bool) (th : Int32) (hy : ∀ k, yv k < 262144) : Hm l yX8_sort cX8_sort 7 (some FieldType.int) 3 4 32 D T [.ref q] [(q, .inr (4, [.ref a1, .ref a2, .ref a3, .ref a4, .ref a5, .int (nI n0), .int nc, .int (bI ne), .int th])), (a1, .inl (T 0, 8, .inl (fun k => nI (yv k / 4)))), (a2, .inl (T 2, 8, .inl (fun k => bI (isE (yv k))))), (a3, .inl (T 2, 8, .inl (fun k => bI (isB (yv k))))), (a4, .inl (T 0, 60, .inl (fun k => nI (tw k / 4)))), (a5, .inl (T 2, 60, .inl (fun k => bI (isE (tw k)))))] (some (.int (nI (mvN yv 8)))) (fun _ : Unit => [(q, .inr (4, [.ref a1, .ref a2, .ref a3, .ref a4, .ref a5, .int (nI n0), .int nc, .int (bI ne), .int 0])), (a1, .inl (T 0, 8, .inl (fun k => nI ((wrS yv 8) k / 4)))), (a2, .inl (T 2, 8, .inl (fun k => bI (isE ((wrS yv 8) k))))), (a3, .inl (T 2, 8, .inl (fun k => bI (isB ((wrS yv 8) k))))), (a4, .inl (T 0, 60, .inl (fun k => nI (tw k / 4)))), (a5, .inl (T 2, 60, .inl (fun k => bI (isE (tw k)))))]) := by
  refine Hm.of (by decide) (Nat.le_of_ble_eq_true rfl) ?_
  intro zp ze s zm args below zmeth zc hx hb hr hml hown hin hts hlocks A hA hP hK hD hS ls hl
  have hl : lv_has ls 7 [(0, .ref q)] := hl
  refine lv_aload_n hx hb dX8_sort_0 rfl (lv_at hl 0 rfl) ?_
  refine lv_iconst (v := 0) hx hb dX8_sort_1 (by decide) ?_
  refine va_put (D := D) (ci := 4) (v := .int 0) (ty := .int) (C := RX8) (T := TX8) (N := 9) hx hb hts i_X8 tyX8 tyX8_ok nmX8 hown hK hP hD hS 0 rfl rfl 8 (by decide) (hts _ u742) (fun _ h9 => h9) rfl (by decide +kernel) rfl rfl (Nat.le_of_ble_eq_true rfl) dX8_sort_2 (fun H locs hP hD hS => ?_)
  have hP : va_P D zcl [(q, .inr (4, [.ref a1, .ref a2, .ref a3, .ref a4, .ref a5, .int (nI n0), .int nc, .int (bI ne), .int 0])), (a1, .inl (T 0, 8, .inl (fun k => nI (yv k / 4)))), (a2, .inl (T 2, 8, .inl (fun k => bI (isE (yv k))))), (a3, .inl (T 2, 8, .inl (fun k => bI (isB (yv k))))), (a4, .inl (T 0, 60, .inl (fun k => nI (tw k / 4)))), (a5, .inl (T 2, 60, .inl (fun k => bI (isE (tw k)))))] H := hP
  have hD : va_D A [(q, .inr (4, [.ref a1, .ref a2, .ref a3, .ref a4, .ref a5, .int (nI n0), .int nc, .int (bI ne), .int 0])), (a1, .inl (T 0, 8, .inl (fun k => nI (yv k / 4)))), (a2, .inl (T 2, 8, .inl (fun k => bI (isE (yv k))))), (a3, .inl (T 2, 8, .inl (fun k => bI (isB (yv k))))), (a4, .inl (T 0, 60, .inl (fun k => nI (tw k / 4)))), (a5, .inl (T 2, 60, .inl (fun k => bI (isE (tw k)))))] := hD
  refine lv_bipush (v := 8) hx hb dX8_sort_5 (by decide) ?_
  refine za_new (T := T) (ty := .int) 0 (cT := T 0) (N' := 8) hx hb rfl rfl (fun _ h9 => by cases h9) (hts _ u62) hK hP hD hS hA (8, .inl (fun k => nI (cpN 0 (fun k => yv k / 4) k))) (zc_int (cpN_0 _)) (fun _ => zc_int (cpN_0 _)) (by decide) (by decide) (by decide) (Nat.le_of_ble_eq_true rfl) (Nat.le_of_ble_eq_true rfl) dX8_sort_7 (fun qa1 H hP hD hS => ?_)
  have hP : va_P D zcl [(q, .inr (4, [.ref a1, .ref a2, .ref a3, .ref a4, .ref a5, .int (nI n0), .int nc, .int (bI ne), .int 0])), (a1, .inl (T 0, 8, .inl (fun k => nI (yv k / 4)))), (a2, .inl (T 2, 8, .inl (fun k => bI (isE (yv k))))), (a3, .inl (T 2, 8, .inl (fun k => bI (isB (yv k))))), (a4, .inl (T 0, 60, .inl (fun k => nI (tw k / 4)))), (a5, .inl (T 2, 60, .inl (fun k => bI (isE (tw k))))), (qa1, .inl (T 0, 8, .inl (fun k => nI (cpN 0 (fun k => yv k / 4) k))))] H := hP
  have hD : va_D A [(q, .inr (4, [.ref a1, .ref a2, .ref a3, .ref a4, .ref a5, .int (nI n0), .int nc, .int (bI ne), .int 0])), (a1, .inl (T 0, 8, .inl (fun k => nI (yv k / 4)))), (a2, .inl (T 2, 8, .inl (fun k => bI (isE (yv k))))), (a3, .inl (T 2, 8, .inl (fun k => bI (isB (yv k))))), (a4, .inl (T 0, 60, .inl (fun k => nI (tw k / 4)))), (a5, .inl (T 2, 60, .inl (fun k => bI (isE (tw k))))), (qa1, .inl (T 0, 8, .inl (fun k => nI (cpN 0 (fun k => yv k / 4) k))))] := hD
  refine lv_astore_n (lv' := [(1, .ref qa1), (0, .ref q)]) hx hb dX8_sort_9 rfl hl (by decide) rfl (fun ls hl => ?_)
  refine lv_bipush (v := 8) hx hb dX8_sort_10 (by decide) ?_
  refine za_new (T := T) (ty := .boolean) 2 (cT := T 2) (N' := 8) hx hb rfl rfl (fun _ h9 => by cases h9) (hts _ u762) hK hP hD hS hA (8, .inl (fun k => bI (cpB 0 (fun k => isE (yv k)) k))) (zc_bool (cpB_0 _)) (fun _ => zc_bool (cpB_0 _)) (by decide) (by decide) (by decide) (Nat.le_of_ble_eq_true rfl) (Nat.le_of_ble_eq_true rfl) dX8_sort_12 (fun qa2 H hP hD hS => ?_)
  have hP : va_P D zcl [(q, .inr (4, [.ref a1, .ref a2, .ref a3, .ref a4, .ref a5, .int (nI n0), .int nc, .int (bI ne), .int 0])), (a1, .inl (T 0, 8, .inl (fun k => nI (yv k / 4)))), (a2, .inl (T 2, 8, .inl (fun k => bI (isE (yv k))))), (a3, .inl (T 2, 8, .inl (fun k => bI (isB (yv k))))), (a4, .inl (T 0, 60, .inl (fun k => nI (tw k / 4)))), (a5, .inl (T 2, 60, .inl (fun k => bI (isE (tw k))))), (qa1, .inl (T 0, 8, .inl (fun k => nI (cpN 0 (fun k => yv k / 4) k)))), (qa2, .inl (T 2, 8, .inl (fun k => bI (cpB 0 (fun k => isE (yv k)) k))))] H := hP
  have hD : va_D A [(q, .inr (4, [.ref a1, .ref a2, .ref a3, .ref a4, .ref a5, .int (nI n0), .int nc, .int (bI ne), .int 0])), (a1, .inl (T 0, 8, .inl (fun k => nI (yv k / 4)))), (a2, .inl (T 2, 8, .inl (fun k => bI (isE (yv k))))), (a3, .inl (T 2, 8, .inl (fun k => bI (isB (yv k))))), (a4, .inl (T 0, 60, .inl (fun k => nI (tw k / 4)))), (a5, .inl (T 2, 60, .inl (fun k => bI (isE (tw k))))), (qa1, .inl (T 0, 8, .inl (fun k => nI (cpN 0 (fun k => yv k / 4) k)))), (qa2, .inl (T 2, 8, .inl (fun k => bI (cpB 0 (fun k => isE (yv k)) k))))] := hD
  refine lv_astore_n (lv' := [(2, .ref qa2), (1, .ref qa1), (0, .ref q)]) hx hb dX8_sort_14 rfl hl (by decide) rfl (fun ls hl => ?_)
  refine lv_bipush (v := 8) hx hb dX8_sort_15 (by decide) ?_
  refine za_new (T := T) (ty := .boolean) 2 (cT := T 2) (N' := 8) hx hb rfl rfl (fun _ h9 => by cases h9) (hts _ u762) hK hP hD hS hA (8, .inl (fun k => bI (cpB 0 (fun k => isB (yv k)) k))) (zc_bool (cpB_0 _)) (fun _ => zc_bool (cpB_0 _)) (by decide) (by decide) (by decide) (Nat.le_of_ble_eq_true rfl) (Nat.le_of_ble_eq_true rfl) dX8_sort_17 (fun qa3 H hP hD hS => ?_)
  have hP : va_P D zcl [(q, .inr (4, [.ref a1, .ref a2, .ref a3, .ref a4, .ref a5, .int (nI n0), .int nc, .int (bI ne), .int 0])), (a1, .inl (T 0, 8, .inl (fun k => nI (yv k / 4)))), (a2, .inl (T 2, 8, .inl (fun k => bI (isE (yv k))))), (a3, .inl (T 2, 8, .inl (fun k => bI (isB (yv k))))), (a4, .inl (T 0, 60, .inl (fun k => nI (tw k / 4)))), (a5, .inl (T 2, 60, .inl (fun k => bI (isE (tw k))))), (qa1, .inl (T 0, 8, .inl (fun k => nI (cpN 0 (fun k => yv k / 4) k)))), (qa2, .inl (T 2, 8, .inl (fun k => bI (cpB 0 (fun k => isE (yv k)) k)))), (qa3, .inl (T 2, 8, .inl (fun k => bI (cpB 0 (fun k => isB (yv k)) k))))] H := hP
  have hD : va_D A [(q, .inr (4, [.ref a1, .ref a2, .ref a3, .ref a4, .ref a5, .int (nI n0), .int nc, .int (bI ne), .int 0])), (a1, .inl (T 0, 8, .inl (fun k => nI (yv k / 4)))), (a2, .inl (T 2, 8, .inl (fun k => bI (isE (yv k))))), (a3, .inl (T 2, 8, .inl (fun k => bI (isB (yv k))))), (a4, .inl (T 0, 60, .inl (fun k => nI (tw k / 4)))), (a5, .inl (T 2, 60, .inl (fun k => bI (isE (tw k))))), (qa1, .inl (T 0, 8, .inl (fun k => nI (cpN 0 (fun k => yv k / 4) k)))), (qa2, .inl (T 2, 8, .inl (fun k => bI (cpB 0 (fun k => isE (yv k)) k)))), (qa3, .inl (T 2, 8, .inl (fun k => bI (cpB 0 (fun k => isB (yv k)) k))))] := hD
  refine lv_astore_n (lv' := [(3, .ref qa3), (2, .ref qa2), (1, .ref qa1), (0, .ref q)]) hx hb dX8_sort_19 rfl hl (by decide) rfl (fun ls hl => ?_)
  refine lv_bipush (v := 8) hx hb dX8_sort_20 (by decide) ?_
  refine za_new (T := T) (ty := .int) 0 (cT := T 0) (N' := 8) hx hb rfl rfl (fun _ h9 => by cases h9) (hts _ u62) hK hP hD hS hA (8, .inl (fun k => nI (rkA yv 0 0 k))) (zc_int (rkA_0 yv)) (fun _ => zc_int (rkA_0 yv)) (by decide) (by decide) (by decide) (Nat.le_of_ble_eq_true rfl) (Nat.le_of_ble_eq_true rfl) dX8_sort_22 (fun qa4 H hP hD hS => ?_)
  have hP : va_P D zcl [(q, .inr (4, [.ref a1, .ref a2, .ref a3, .ref a4, .ref a5, .int (nI n0), .int nc, .int (bI ne), .int 0])), (a1, .inl (T 0, 8, .inl (fun k => nI (yv k / 4)))), (a2, .inl (T 2, 8, .inl (fun k => bI (isE (yv k))))), (a3, .inl (T 2, 8, .inl (fun k => bI (isB (yv k))))), (a4, .inl (T 0, 60, .inl (fun k => nI (tw k / 4)))), (a5, .inl (T 2, 60, .inl (fun k => bI (isE (tw k))))), (qa1, .inl (T 0, 8, .inl (fun k => nI (cpN 0 (fun k => yv k / 4) k)))), (qa2, .inl (T 2, 8, .inl (fun k => bI (cpB 0 (fun k => isE (yv k)) k)))), (qa3, .inl (T 2, 8, .inl (fun k => bI (cpB 0 (fun k => isB (yv k)) k)))), (qa4, .inl (T 0, 8, .inl (fun k => nI (rkA yv 0 0 k))))] H := hP
  have hD : va_D A [(q, .inr (4, [.ref a1, .ref a2, .ref a3, .ref a4, .ref a5, .int (nI n0), .int nc, .int (bI ne), .int 0])), (a1, .inl (T 0, 8, .inl (fun k => nI (yv k / 4)))), (a2, .inl (T 2, 8, .inl (fun k => bI (isE (yv k))))), (a3, .inl (T 2, 8, .inl (fun k => bI (isB (yv k))))), (a4, .inl (T 0, 60, .inl (fun k => nI (tw k / 4)))), (a5, .inl (T 2, 60, .inl (fun k => bI (isE (tw k))))), (qa1, .inl (T 0, 8, .inl (fun k => nI (cpN 0 (fun k => yv k / 4) k)))), (qa2, .inl (T 2, 8, .inl (fun k => bI (cpB 0 (fun k => isE (yv k)) k)))), (qa3, .inl (T 2, 8, .inl (fun k => bI (cpB 0 (fun k => isB (yv k)) k)))), (qa4, .inl (T 0, 8, .inl (fun k => nI (rkA yv 0 0 k))))] := hD
  refine lv_astore (lv' := [(4, .ref qa4), (3, .ref qa3), (2, .ref qa2), (1, .ref qa1), (0, .ref q)]) hx hb dX8_sort_24 hl (by decide) rfl (fun ls hl => ?_)
  refine lv_iconst (v := 0) hx hb dX8_sort_26 (by decide) ?_
  refine zf_i (x' := nI 0) (rfl) ?_
  refine lv_istore (lv' := [(5, .int (nI 0)), (4, .ref qa4), (3, .ref qa3), (2, .ref qa2), (1, .ref qa1), (0, .ref q)]) hx hb dX8_sort_27 hl (by decide) rfl (fun ls hl => ?_)
  have lp : ∀ (n : Nat) (i : Nat), i + n = 8 → ∀ (H : Heap) (locs : List Loc), va_P D zcl [(q, .inr (4, [.ref a1, .ref a2, .ref a3, .ref a4, .ref a5, .int (nI n0), .int nc, .int (bI ne), .int 0])), (a1, .inl (T 0, 8, .inl (fun k => nI (yv k / 4)))), (a2, .inl (T 2, 8, .inl (fun k => bI (isE (yv k))))), (a3, .inl (T 2, 8, .inl (fun k => bI (isB (yv k))))), (a4, .inl (T 0, 60, .inl (fun k => nI (tw k / 4)))), (a5, .inl (T 2, 60, .inl (fun k => bI (isE (tw k))))), (qa1, .inl (T 0, 8, .inl (fun k => nI (cpN i (fun k => yv k / 4) k)))), (qa2, .inl (T 2, 8, .inl (fun k => bI (cpB i (fun k => isE (yv k)) k)))), (qa3, .inl (T 2, 8, .inl (fun k => bI (cpB i (fun k => isB (yv k)) k)))), (qa4, .inl (T 0, 8, .inl (fun k => nI (rkA yv i 0 k))))] H → va_D A [(q, .inr (4, [.ref a1, .ref a2, .ref a3, .ref a4, .ref a5, .int (nI n0), .int nc, .int (bI ne), .int 0])), (a1, .inl (T 0, 8, .inl (fun k => nI (yv k / 4)))), (a2, .inl (T 2, 8, .inl (fun k => bI (isE (yv k))))), (a3, .inl (T 2, 8, .inl (fun k => bI (isB (yv k))))), (a4, .inl (T 0, 60, .inl (fun k => nI (tw k / 4)))), (a5, .inl (T 2, 60, .inl (fun k => bI (isE (tw k))))), (qa1, .inl (T 0, 8, .inl (fun k => nI (cpN i (fun k => yv k / 4) k)))), (qa2, .inl (T 2, 8, .inl (fun k => bI (cpB i (fun k => isE (yv k)) k)))), (qa3, .inl (T 2, 8, .inl (fun k => bI (cpB i (fun k => isB (yv k)) k)))), (qa4, .inl (T 0, 8, .inl (fun k => nI (rkA yv i 0 k))))] → va_S A s.heap H locs → ∀ ls : Array Slot, lv_has ls 7 [(0, .ref q), (1, .ref qa1), (2, .ref qa2), (3, .ref qa3), (4, .ref qa4), (5, .int (nI i))] → W zp l ze (zR 3 4 32) s zm args below zmeth zc H locs 4 32 (MQ below (zQh D A (some (.int (nI (mvN yv 8)))) (fun _ : Unit => [(q, .inr (4, [.ref a1, .ref a2, .ref a3, .ref a4, .ref a5, .int (nI n0), .int nc, .int (bI ne), .int 0])), (a1, .inl (T 0, 8, .inl (fun k => nI ((wrS yv 8) k / 4)))), (a2, .inl (T 2, 8, .inl (fun k => bI (isE ((wrS yv 8) k))))), (a3, .inl (T 2, 8, .inl (fun k => bI (isB ((wrS yv 8) k))))), (a4, .inl (T 0, 60, .inl (fun k => nI (tw k / 4)))), (a5, .inl (T 2, 60, .inl (fun k => bI (isE (tw k)))))])) args s 4 32 A) (F0 zm 29 ls []) := by
    intro n
    induction n with
    | zero =>
      intro i hi H locs hP hD hS ls hl
      have hi8 : i = 8 := by omega
      rw [hi8] at hl hP hD
      refine lv_iload hx hb dX8_sort_29 (lv_at hl 5 rfl) ?_
      refine lv_bipush (v := 8) hx hb dX8_sort_31 (by decide) ?_
      refine lv_icmp_ge (tgt := 141) hx hb dX8_sort_33 (by decide) (fun h1 => ?_) (fun h1 => ?_)
      · refine lv_iconst (v := 0) hx hb dX8_sort_141 (by decide) ?_
        refine zf_i (x' := nI (mvN yv 0)) (rfl) ?_
        refine lv_istore (lv' := [(5, .int (nI (mvN yv 0))), (0, .ref q), (1, .ref qa1), (2, .ref qa2), (3, .ref qa3), (4, .ref qa4)]) hx hb dX8_sort_142 hl (by decide) rfl (fun ls hl => ?_)
        refine lv_iconst (v := 0) hx hb dX8_sort_144 (by decide) ?_
        refine zf_i (x' := nI 0) (rfl) ?_
        refine lv_istore (lv' := [(6, .int (nI 0)), (5, .int (nI (mvN yv 0))), (0, .ref q), (1, .ref qa1), (2, .ref qa2), (3, .ref qa3), (4, .ref qa4)]) hx hb dX8_sort_145 hl (by decide) rfl (fun ls hl => ?_)
        have lw : ∀ (n : Nat) (i : Nat), i + n = 8 → ∀ (H : Heap) (locs : List Loc), va_P D zcl [(q, .inr (4, [.ref a1, .ref a2, .ref a3, .ref a4, .ref a5, .int (nI n0), .int nc, .int (bI ne), .int 0])), (a1, .inl (T 0, 8, .inl (fun k => nI ((wrS yv i) k / 4)))), (a2, .inl (T 2, 8, .inl (fun k => bI (isE ((wrS yv i) k))))), (a3, .inl (T 2, 8, .inl (fun k => bI (isB ((wrS yv i) k))))), (a4, .inl (T 0, 60, .inl (fun k => nI (tw k / 4)))), (a5, .inl (T 2, 60, .inl (fun k => bI (isE (tw k))))), (qa1, .inl (T 0, 8, .inl (fun k => nI (cpN 8 (fun k => yv k / 4) k)))), (qa2, .inl (T 2, 8, .inl (fun k => bI (cpB 8 (fun k => isE (yv k)) k)))), (qa3, .inl (T 2, 8, .inl (fun k => bI (cpB 8 (fun k => isB (yv k)) k)))), (qa4, .inl (T 0, 8, .inl (fun k => nI (rkA yv 8 0 k))))] H → va_D A [(q, .inr (4, [.ref a1, .ref a2, .ref a3, .ref a4, .ref a5, .int (nI n0), .int nc, .int (bI ne), .int 0])), (a1, .inl (T 0, 8, .inl (fun k => nI ((wrS yv i) k / 4)))), (a2, .inl (T 2, 8, .inl (fun k => bI (isE ((wrS yv i) k))))), (a3, .inl (T 2, 8, .inl (fun k => bI (isB ((wrS yv i) k))))), (a4, .inl (T 0, 60, .inl (fun k => nI (tw k / 4)))), (a5, .inl (T 2, 60, .inl (fun k => bI (isE (tw k))))), (qa1, .inl (T 0, 8, .inl (fun k => nI (cpN 8 (fun k => yv k / 4) k)))), (qa2, .inl (T 2, 8, .inl (fun k => bI (cpB 8 (fun k => isE (yv k)) k)))), (qa3, .inl (T 2, 8, .inl (fun k => bI (cpB 8 (fun k => isB (yv k)) k)))), (qa4, .inl (T 0, 8, .inl (fun k => nI (rkA yv 8 0 k))))] → va_S A s.heap H locs → ∀ ls : Array Slot, lv_has ls 7 [(0, .ref q), (1, .ref qa1), (2, .ref qa2), (3, .ref qa3), (4, .ref qa4), (5, .int (nI (mvN yv i))), (6, .int (nI i))] → W zp l ze (zR 3 4 32) s zm args below zmeth zc H locs 4 32 (MQ below (zQh D A (some (.int (nI (mvN yv 8)))) (fun _ : Unit => [(q, .inr (4, [.ref a1, .ref a2, .ref a3, .ref a4, .ref a5, .int (nI n0), .int nc, .int (bI ne), .int 0])), (a1, .inl (T 0, 8, .inl (fun k => nI ((wrS yv 8) k / 4)))), (a2, .inl (T 2, 8, .inl (fun k => bI (isE ((wrS yv 8) k))))), (a3, .inl (T 2, 8, .inl (fun k => bI (isB ((wrS yv 8) k))))), (a4, .inl (T 0, 60, .inl (fun k => nI (tw k / 4)))), (a5, .inl (T 2, 60, .inl (fun k => bI (isE (tw k)))))])) args s 4 32 A) (F0 zm 147 ls []) := by
          intro n
          induction n with
          | zero =>
            intro i hi H locs hP hD hS ls hl
            have hi8 : i = 8 := by omega
            refine lv_iload hx hb dX8_sort_147 (lv_at hl 6 rfl) ?_
            refine lv_bipush (v := 8) hx hb dX8_sort_149 (by decide) ?_
            refine lv_icmp_ge (tgt := 201) hx hb dX8_sort_151 (by decide) (fun h2 => ?_) (fun h2 => ?_)
            · have hP : va_P D zcl [(q, .inr (4, [.ref a1, .ref a2, .ref a3, .ref a4, .ref a5, .int (nI n0), .int nc, .int (bI ne), .int 0])), (a1, .inl (T 0, 8, .inl (fun k => nI ((wrS yv i) k / 4)))), (a2, .inl (T 2, 8, .inl (fun k => bI (isE ((wrS yv i) k))))), (a3, .inl (T 2, 8, .inl (fun k => bI (isB ((wrS yv i) k))))), (a4, .inl (T 0, 60, .inl (fun k => nI (tw k / 4)))), (a5, .inl (T 2, 60, .inl (fun k => bI (isE (tw k)))))] H := hP.sub [0, 1, 2, 3, 4, 5] (zfm rfl)
              have hD : va_D A [(q, .inr (4, [.ref a1, .ref a2, .ref a3, .ref a4, .ref a5, .int (nI n0), .int nc, .int (bI ne), .int 0])), (a1, .inl (T 0, 8, .inl (fun k => nI ((wrS yv i) k / 4)))), (a2, .inl (T 2, 8, .inl (fun k => bI (isE ((wrS yv i) k))))), (a3, .inl (T 2, 8, .inl (fun k => bI (isB ((wrS yv i) k))))), (a4, .inl (T 0, 60, .inl (fun k => nI (tw k / 4)))), (a5, .inl (T 2, 60, .inl (fun k => bI (isE (tw k)))))] := hD.sub [0, 1, 2, 3, 4, 5] rfl rfl
              refine lv_iload hx hb dX8_sort_201 (lv_at hl 5 rfl) ?_
              exact zh_iret () hx hb hr hlocks dX8_sort_203 hP hD hS (by rw [hi8]) (by rw [hi8])
            · exact absurd (show nI 8 ≤ nI i from nI_le (by omega) (by omega)) h2
          | succ n ih =>
            intro i hi H locs hP hD hS ls hl
            have hi8 : i < 8 := by omega
            refine lv_iload hx hb dX8_sort_147 (lv_at hl 6 rfl) ?_
            refine lv_bipush (v := 8) hx hb dX8_sort_149 (by decide) ?_
            refine lv_icmp_ge (tgt := 201) hx hb dX8_sort_151 (by decide) (fun h3 => ?_) (fun h3 => ?_)
            · exact absurd h3 (show ¬ nI 8 ≤ nI i from nI_ge (by omega) (by decide))
            · refine lv_aload_n hx hb dX8_sort_154 rfl (lv_at hl 0 rfl) ?_
              refine lv_aload hx hb dX8_sort_155 (lv_at hl 4 rfl) ?_
              refine lv_iload hx hb dX8_sort_157 (lv_at hl 6 rfl) ?_
              refine za_iald hx hb hK hP 9 rfl i (rfl) (by omega) (by decide) dX8_sort_159 ?_
              refine zf_i (x' := nI (rkN yv i 8)) (by rw [rkA_8 hi8]) ?_
              refine lv_aload_n hx hb dX8_sort_160 rfl (lv_at hl 1 rfl) ?_
              refine lv_iload hx hb dX8_sort_161 (lv_at hl 6 rfl) ?_
              refine za_iald hx hb hK hP 6 rfl i (rfl) (by omega) (by decide) dX8_sort_163 ?_
              refine zf_i (x' := nI (yv i / 4)) (by rw [cpN, if_pos hi8]) ?_
              refine lv_aload_n hx hb dX8_sort_164 rfl (lv_at hl 2 rfl) ?_
              refine lv_iload hx hb dX8_sort_165 (lv_at hl 6 rfl) ?_
              refine za_zald hx hb hK hP 7 rfl i (rfl) (by omega) (by decide) dX8_sort_167 ?_
              refine zf_z (x' := isE (yv i)) (congrArg bI (if_pos hi8)) ?_
              refine lv_aload_n hx hb dX8_sort_168 rfl (lv_at hl 3 rfl) ?_
              refine lv_iload hx hb dX8_sort_169 (lv_at hl 6 rfl) ?_
              refine za_zald hx hb hK hP 8 rfl i (rfl) (by omega) (by decide) dX8_sort_171 ?_
              refine zf_z (x' := isB (yv i)) (congrArg bI (if_pos hi8)) ?_
              refine zh_v (T := T) hx hb hml hown hts k_X8_62 (c_X8_write l D T q a1 a2 a3 a4 a5 (wrS yv i) tw n0 nc ne 0 (rkN yv i 8) (rk_in yv i 8 hi8) (yv i / 4) (isE (yv i)) (isB (yv i))) ⟨by decide, by decide⟩ rfl hl.1 [] rfl (Nat.le_of_ble_eq_true rfl) dX8_sort_172 ⟨Nat.le_of_ble_eq_true rfl, Nat.le_of_ble_eq_true rfl⟩ hK hP hD hS hA (ci := 4) rfl rfl rfl [0, 1, 2, 3, 4, 5] [6, 7, 8, 9] (wr := [(qa1, .inl (T 0, 8, .inl (fun k => nI (cpN 8 (fun k => yv k / 4) k)))), (qa2, .inl (T 2, 8, .inl (fun k => bI (cpB 8 (fun k => isE (yv k)) k)))), (qa3, .inl (T 2, 8, .inl (fun k => bI (cpB 8 (fun k => isB (yv k)) k)))), (qa4, .inl (T 0, 8, .inl (fun k => nI (rkA yv 8 0 k))))]) rfl rfl (by decide) (by decide) (by decide) [4, 5, 6, 7, 8, 9, 0, 1, 2, 3] (fun _ => [(q, .inr (4, [.ref a1, .ref a2, .ref a3, .ref a4, .ref a5, .int (nI n0), .int nc, .int (bI ne), .int 0])), (a1, .inl (T 0, 8, .inl (fun k => nI ((up (wrS yv i) (rkN yv i 8) (mk (yv i / 4) (isE (yv i)) (isB (yv i)))) k / 4)))), (a2, .inl (T 2, 8, .inl (fun k => bI (isE ((up (wrS yv i) (rkN yv i 8) (mk (yv i / 4) (isE (yv i)) (isB (yv i)))) k))))), (a3, .inl (T 2, 8, .inl (fun k => bI (isB ((up (wrS yv i) (rkN yv i 8) (mk (yv i / 4) (isE (yv i)) (isB (yv i)))) k))))), (a4, .inl (T 0, 60, .inl (fun k => nI (tw k / 4)))), (a5, .inl (T 2, 60, .inl (fun k => bI (isE (tw k))))), (qa1, .inl (T 0, 8, .inl (fun k => nI (cpN 8 (fun k => yv k / 4) k)))), (qa2, .inl (T 2, 8, .inl (fun k => bI (cpB 8 (fun k => isE (yv k)) k)))), (qa3, .inl (T 2, 8, .inl (fun k => bI (cpB 8 (fun k => isB (yv k)) k)))), (qa4, .inl (T 0, 8, .inl (fun k => nI (rkA yv 8 0 k))))]) (by decide) (fun _ => rfl) (fun _ H locs hP hD hS => ?_)
              have hP : va_P D zcl [(q, .inr (4, [.ref a1, .ref a2, .ref a3, .ref a4, .ref a5, .int (nI n0), .int nc, .int (bI ne), .int 0])), (a1, .inl (T 0, 8, .inl (fun k => nI ((up (wrS yv i) (rkN yv i 8) (mk (yv i / 4) (isE (yv i)) (isB (yv i)))) k / 4)))), (a2, .inl (T 2, 8, .inl (fun k => bI (isE ((up (wrS yv i) (rkN yv i 8) (mk (yv i / 4) (isE (yv i)) (isB (yv i)))) k))))), (a3, .inl (T 2, 8, .inl (fun k => bI (isB ((up (wrS yv i) (rkN yv i 8) (mk (yv i / 4) (isE (yv i)) (isB (yv i)))) k))))), (a4, .inl (T 0, 60, .inl (fun k => nI (tw k / 4)))), (a5, .inl (T 2, 60, .inl (fun k => bI (isE (tw k))))), (qa1, .inl (T 0, 8, .inl (fun k => nI (cpN 8 (fun k => yv k / 4) k)))), (qa2, .inl (T 2, 8, .inl (fun k => bI (cpB 8 (fun k => isE (yv k)) k)))), (qa3, .inl (T 2, 8, .inl (fun k => bI (cpB 8 (fun k => isB (yv k)) k)))), (qa4, .inl (T 0, 8, .inl (fun k => nI (rkA yv 8 0 k))))] H := hP
              have hD : va_D A [(q, .inr (4, [.ref a1, .ref a2, .ref a3, .ref a4, .ref a5, .int (nI n0), .int nc, .int (bI ne), .int 0])), (a1, .inl (T 0, 8, .inl (fun k => nI ((up (wrS yv i) (rkN yv i 8) (mk (yv i / 4) (isE (yv i)) (isB (yv i)))) k / 4)))), (a2, .inl (T 2, 8, .inl (fun k => bI (isE ((up (wrS yv i) (rkN yv i 8) (mk (yv i / 4) (isE (yv i)) (isB (yv i)))) k))))), (a3, .inl (T 2, 8, .inl (fun k => bI (isB ((up (wrS yv i) (rkN yv i 8) (mk (yv i / 4) (isE (yv i)) (isB (yv i)))) k))))), (a4, .inl (T 0, 60, .inl (fun k => nI (tw k / 4)))), (a5, .inl (T 2, 60, .inl (fun k => bI (isE (tw k))))), (qa1, .inl (T 0, 8, .inl (fun k => nI (cpN 8 (fun k => yv k / 4) k)))), (qa2, .inl (T 2, 8, .inl (fun k => bI (cpB 8 (fun k => isE (yv k)) k)))), (qa3, .inl (T 2, 8, .inl (fun k => bI (cpB 8 (fun k => isB (yv k)) k)))), (qa4, .inl (T 0, 8, .inl (fun k => nI (rkA yv 8 0 k))))] := hD
              rw [show up (wrS yv i) (rkN yv i 8) (mk (yv i / 4) (isE (yv i)) (isB (yv i))) = wrS yv (i + 1) from by rw [mk_of]; rfl] at hP hD
              have hP : va_P D zcl [(q, .inr (4, [.ref a1, .ref a2, .ref a3, .ref a4, .ref a5, .int (nI n0), .int nc, .int (bI ne), .int 0])), (a1, .inl (T 0, 8, .inl (fun k => nI ((wrS yv (i + 1)) k / 4)))), (a2, .inl (T 2, 8, .inl (fun k => bI (isE ((wrS yv (i + 1)) k))))), (a3, .inl (T 2, 8, .inl (fun k => bI (isB ((wrS yv (i + 1)) k))))), (a4, .inl (T 0, 60, .inl (fun k => nI (tw k / 4)))), (a5, .inl (T 2, 60, .inl (fun k => bI (isE (tw k))))), (qa1, .inl (T 0, 8, .inl (fun k => nI (cpN 8 (fun k => yv k / 4) k)))), (qa2, .inl (T 2, 8, .inl (fun k => bI (cpB 8 (fun k => isE (yv k)) k)))), (qa3, .inl (T 2, 8, .inl (fun k => bI (cpB 8 (fun k => isB (yv k)) k)))), (qa4, .inl (T 0, 8, .inl (fun k => nI (rkA yv 8 0 k))))] H := hP
              have hD : va_D A [(q, .inr (4, [.ref a1, .ref a2, .ref a3, .ref a4, .ref a5, .int (nI n0), .int nc, .int (bI ne), .int 0])), (a1, .inl (T 0, 8, .inl (fun k => nI ((wrS yv (i + 1)) k / 4)))), (a2, .inl (T 2, 8, .inl (fun k => bI (isE ((wrS yv (i + 1)) k))))), (a3, .inl (T 2, 8, .inl (fun k => bI (isB ((wrS yv (i + 1)) k))))), (a4, .inl (T 0, 60, .inl (fun k => nI (tw k / 4)))), (a5, .inl (T 2, 60, .inl (fun k => bI (isE (tw k))))), (qa1, .inl (T 0, 8, .inl (fun k => nI (cpN 8 (fun k => yv k / 4) k)))), (qa2, .inl (T 2, 8, .inl (fun k => bI (cpB 8 (fun k => isE (yv k)) k)))), (qa3, .inl (T 2, 8, .inl (fun k => bI (cpB 8 (fun k => isB (yv k)) k)))), (qa4, .inl (T 0, 8, .inl (fun k => nI (rkA yv 8 0 k))))] := hD
              refine lv_iload hx hb dX8_sort_175 (lv_at hl 5 rfl) ?_
              refine lv_aload hx hb dX8_sort_177 (lv_at hl 4 rfl) ?_
              refine lv_iload hx hb dX8_sort_179 (lv_at hl 6 rfl) ?_
              refine za_iald hx hb hK hP 9 rfl i (rfl) (by omega) (by decide) dX8_sort_181 ?_
              refine zf_i (x' := nI (rkN yv i 8)) (by rw [rkA_8 hi8]) ?_
              refine lv_iload hx hb dX8_sort_182 (lv_at hl 6 rfl) ?_
              refine lv_icmp_ne (tgt := 191) hx hb dX8_sort_184 (by decide) (fun h4 => ?_) (fun h4 => ?_)
              · refine lv_iconst (v := 1) hx hb dX8_sort_191 (by decide) ?_
                refine lv_iadd hx hb dX8_sort_192 ?_
                refine zf_i (x' := nI (mvN yv (i + 1))) ((nI_1 _).trans (by rw [mvN, if_neg (fun q => h4 (by rw [q]))])) ?_
                refine lv_istore (lv' := [(5, .int (nI (mvN yv (i + 1)))), (0, .ref q), (1, .ref qa1), (2, .ref qa2), (3, .ref qa3), (4, .ref qa4), (6, .int (nI i))]) hx hb dX8_sort_193 hl (by decide) rfl (fun ls hl => ?_)
                refine lv_iinc (v := (nI (i + 1))) (lv' := [(6, .int (nI (i + 1))), (5, .int (nI (mvN yv (i + 1)))), (0, .ref q), (1, .ref qa1), (2, .ref qa2), (3, .ref qa3), (4, .ref qa4)]) hx hb dX8_sort_195 hl (k := 6) rfl (nI_1 i) (by decide) rfl (fun ls hl => ?_)
                refine lv_goto (tgt := 147) hx hb dX8_sort_198 (by decide) ?_
                exact ih (i + 1) (by omega) _ _ hP hD hS ls (lv_sub hl [2, 3, 4, 5, 6, 1, 0] rfl)
              · refine lv_iconst (v := 0) hx hb dX8_sort_187 (by decide) ?_
                refine lv_goto (tgt := 192) hx hb dX8_sort_188 (by decide) ?_
                refine lv_iadd hx hb dX8_sort_192 ?_
                refine zf_i (x' := nI (mvN yv (i + 1))) ((Int32.add_zero _).trans (by rw [mvN, if_pos ((nI_eq (by have := rk_le yv i 8; omega) (by omega)).mp h4)]; rfl)) ?_
                refine lv_istore (lv' := [(5, .int (nI (mvN yv (i + 1)))), (0, .ref q), (1, .ref qa1), (2, .ref qa2), (3, .ref qa3), (4, .ref qa4), (6, .int (nI i))]) hx hb dX8_sort_193 hl (by decide) rfl (fun ls hl => ?_)
                refine lv_iinc (v := (nI (i + 1))) (lv' := [(6, .int (nI (i + 1))), (5, .int (nI (mvN yv (i + 1)))), (0, .ref q), (1, .ref qa1), (2, .ref qa2), (3, .ref qa3), (4, .ref qa4)]) hx hb dX8_sort_195 hl (k := 6) rfl (nI_1 i) (by decide) rfl (fun ls hl => ?_)
                refine lv_goto (tgt := 147) hx hb dX8_sort_198 (by decide) ?_
                exact ih (i + 1) (by omega) _ _ hP hD hS ls (lv_sub hl [2, 3, 4, 5, 6, 1, 0] rfl)
        exact lw 8 0 (by omega) _ _ hP hD hS ls (lv_sub hl [2, 3, 4, 5, 6, 1, 0] rfl)
      · exact absurd (show (8 : Int32) ≤ nI 8 by decide) h1
    | succ n ih =>
      intro i hi H locs hP hD hS ls hl
      have hi8 : i < 8 := by omega
      refine lv_iload hx hb dX8_sort_29 (lv_at hl 5 rfl) ?_
      refine lv_bipush (v := 8) hx hb dX8_sort_31 (by decide) ?_
      refine lv_icmp_ge (tgt := 141) hx hb dX8_sort_33 (by decide) (fun h5 => ?_) (fun h5 => ?_)
      · exact absurd h5 (show ¬ nI 8 ≤ nI i from nI_ge (by omega) (by decide))
      · refine lv_aload_n hx hb dX8_sort_36 rfl (lv_at hl 1 rfl) ?_
        refine lv_iload hx hb dX8_sort_37 (lv_at hl 5 rfl) ?_
        refine lv_aload_n hx hb dX8_sort_39 rfl (lv_at hl 0 rfl) ?_
        refine va_get (D := D) (ci := 4) (v := .ref a1) (C := RX8) (T := TX8) (N := 9) hx hb hts i_X8 hown hK hP 0 rfl rfl 0 (by decide) (hts _ u734) (fun _ h9 => h9) rfl dX8_sort_40 ?_
        refine lv_iload hx hb dX8_sort_43 (lv_at hl 5 rfl) ?_
        refine za_iald hx hb hK hP 1 rfl i (rfl) (by omega) (by decide) dX8_sort_45 ?_
        refine za_iast hx hb hK hP hD hS 6 rfl i (rfl) (by omega) (by decide) (fun k => nI (cpN (i + 1) (fun k => yv k / 4) k)) (cpN_up (fun k => yv k / 4) i) dX8_sort_46 (fun H locs hP hD hS => ?_)
        have hP : va_P D zcl [(q, .inr (4, [.ref a1, .ref a2, .ref a3, .ref a4, .ref a5, .int (nI n0), .int nc, .int (bI ne), .int 0])), (a1, .inl (T 0, 8, .inl (fun k => nI (yv k / 4)))), (a2, .inl (T 2, 8, .inl (fun k => bI (isE (yv k))))), (a3, .inl (T 2, 8, .inl (fun k => bI (isB (yv k))))), (a4, .inl (T 0, 60, .inl (fun k => nI (tw k / 4)))), (a5, .inl (T 2, 60, .inl (fun k => bI (isE (tw k))))), (qa1, .inl (T 0, 8, .inl (fun k => nI (cpN (i + 1) (fun k => yv k / 4) k)))), (qa2, .inl (T 2, 8, .inl (fun k => bI (cpB i (fun k => isE (yv k)) k)))), (qa3, .inl (T 2, 8, .inl (fun k => bI (cpB i (fun k => isB (yv k)) k)))), (qa4, .inl (T 0, 8, .inl (fun k => nI (rkA yv i 0 k))))] H := hP
        have hD : va_D A [(q, .inr (4, [.ref a1, .ref a2, .ref a3, .ref a4, .ref a5, .int (nI n0), .int nc, .int (bI ne), .int 0])), (a1, .inl (T 0, 8, .inl (fun k => nI (yv k / 4)))), (a2, .inl (T 2, 8, .inl (fun k => bI (isE (yv k))))), (a3, .inl (T 2, 8, .inl (fun k => bI (isB (yv k))))), (a4, .inl (T 0, 60, .inl (fun k => nI (tw k / 4)))), (a5, .inl (T 2, 60, .inl (fun k => bI (isE (tw k))))), (qa1, .inl (T 0, 8, .inl (fun k => nI (cpN (i + 1) (fun k => yv k / 4) k)))), (qa2, .inl (T 2, 8, .inl (fun k => bI (cpB i (fun k => isE (yv k)) k)))), (qa3, .inl (T 2, 8, .inl (fun k => bI (cpB i (fun k => isB (yv k)) k)))), (qa4, .inl (T 0, 8, .inl (fun k => nI (rkA yv i 0 k))))] := hD
        refine lv_aload_n hx hb dX8_sort_47 rfl (lv_at hl 2 rfl) ?_
        refine lv_iload hx hb dX8_sort_48 (lv_at hl 5 rfl) ?_
        refine lv_aload_n hx hb dX8_sort_50 rfl (lv_at hl 0 rfl) ?_
        refine va_get (D := D) (ci := 4) (v := .ref a2) (C := RX8) (T := TX8) (N := 9) hx hb hts i_X8 hown hK hP 0 rfl rfl 1 (by decide) (hts _ u735) (fun _ h9 => h9) rfl dX8_sort_51 ?_
        refine lv_iload hx hb dX8_sort_54 (lv_at hl 5 rfl) ?_
        refine za_zald hx hb hK hP 2 rfl i (rfl) (by omega) (by decide) dX8_sort_56 ?_
        refine za_zast hx hb hK hP hD hS 7 rfl i (rfl) (by omega) (by decide) (fun k => bI (cpB (i + 1) (fun k => isE (yv k)) k)) (cpB_up (fun k => isE (yv k)) i) dX8_sort_57 (fun H locs hP hD hS => ?_)
        have hP : va_P D zcl [(q, .inr (4, [.ref a1, .ref a2, .ref a3, .ref a4, .ref a5, .int (nI n0), .int nc, .int (bI ne), .int 0])), (a1, .inl (T 0, 8, .inl (fun k => nI (yv k / 4)))), (a2, .inl (T 2, 8, .inl (fun k => bI (isE (yv k))))), (a3, .inl (T 2, 8, .inl (fun k => bI (isB (yv k))))), (a4, .inl (T 0, 60, .inl (fun k => nI (tw k / 4)))), (a5, .inl (T 2, 60, .inl (fun k => bI (isE (tw k))))), (qa1, .inl (T 0, 8, .inl (fun k => nI (cpN (i + 1) (fun k => yv k / 4) k)))), (qa2, .inl (T 2, 8, .inl (fun k => bI (cpB (i + 1) (fun k => isE (yv k)) k)))), (qa3, .inl (T 2, 8, .inl (fun k => bI (cpB i (fun k => isB (yv k)) k)))), (qa4, .inl (T 0, 8, .inl (fun k => nI (rkA yv i 0 k))))] H := hP
        have hD : va_D A [(q, .inr (4, [.ref a1, .ref a2, .ref a3, .ref a4, .ref a5, .int (nI n0), .int nc, .int (bI ne), .int 0])), (a1, .inl (T 0, 8, .inl (fun k => nI (yv k / 4)))), (a2, .inl (T 2, 8, .inl (fun k => bI (isE (yv k))))), (a3, .inl (T 2, 8, .inl (fun k => bI (isB (yv k))))), (a4, .inl (T 0, 60, .inl (fun k => nI (tw k / 4)))), (a5, .inl (T 2, 60, .inl (fun k => bI (isE (tw k))))), (qa1, .inl (T 0, 8, .inl (fun k => nI (cpN (i + 1) (fun k => yv k / 4) k)))), (qa2, .inl (T 2, 8, .inl (fun k => bI (cpB (i + 1) (fun k => isE (yv k)) k)))), (qa3, .inl (T 2, 8, .inl (fun k => bI (cpB i (fun k => isB (yv k)) k)))), (qa4, .inl (T 0, 8, .inl (fun k => nI (rkA yv i 0 k))))] := hD
        refine lv_aload_n hx hb dX8_sort_58 rfl (lv_at hl 3 rfl) ?_
        refine lv_iload hx hb dX8_sort_59 (lv_at hl 5 rfl) ?_
        refine lv_aload_n hx hb dX8_sort_61 rfl (lv_at hl 0 rfl) ?_
        refine va_get (D := D) (ci := 4) (v := .ref a3) (C := RX8) (T := TX8) (N := 9) hx hb hts i_X8 hown hK hP 0 rfl rfl 2 (by decide) (hts _ u736) (fun _ h9 => h9) rfl dX8_sort_62 ?_
        refine lv_iload hx hb dX8_sort_65 (lv_at hl 5 rfl) ?_
        refine za_zald hx hb hK hP 3 rfl i (rfl) (by omega) (by decide) dX8_sort_67 ?_
        refine za_zast hx hb hK hP hD hS 8 rfl i (rfl) (by omega) (by decide) (fun k => bI (cpB (i + 1) (fun k => isB (yv k)) k)) (cpB_up (fun k => isB (yv k)) i) dX8_sort_68 (fun H locs hP hD hS => ?_)
        have hP : va_P D zcl [(q, .inr (4, [.ref a1, .ref a2, .ref a3, .ref a4, .ref a5, .int (nI n0), .int nc, .int (bI ne), .int 0])), (a1, .inl (T 0, 8, .inl (fun k => nI (yv k / 4)))), (a2, .inl (T 2, 8, .inl (fun k => bI (isE (yv k))))), (a3, .inl (T 2, 8, .inl (fun k => bI (isB (yv k))))), (a4, .inl (T 0, 60, .inl (fun k => nI (tw k / 4)))), (a5, .inl (T 2, 60, .inl (fun k => bI (isE (tw k))))), (qa1, .inl (T 0, 8, .inl (fun k => nI (cpN (i + 1) (fun k => yv k / 4) k)))), (qa2, .inl (T 2, 8, .inl (fun k => bI (cpB (i + 1) (fun k => isE (yv k)) k)))), (qa3, .inl (T 2, 8, .inl (fun k => bI (cpB (i + 1) (fun k => isB (yv k)) k)))), (qa4, .inl (T 0, 8, .inl (fun k => nI (rkA yv i 0 k))))] H := hP
        have hD : va_D A [(q, .inr (4, [.ref a1, .ref a2, .ref a3, .ref a4, .ref a5, .int (nI n0), .int nc, .int (bI ne), .int 0])), (a1, .inl (T 0, 8, .inl (fun k => nI (yv k / 4)))), (a2, .inl (T 2, 8, .inl (fun k => bI (isE (yv k))))), (a3, .inl (T 2, 8, .inl (fun k => bI (isB (yv k))))), (a4, .inl (T 0, 60, .inl (fun k => nI (tw k / 4)))), (a5, .inl (T 2, 60, .inl (fun k => bI (isE (tw k))))), (qa1, .inl (T 0, 8, .inl (fun k => nI (cpN (i + 1) (fun k => yv k / 4) k)))), (qa2, .inl (T 2, 8, .inl (fun k => bI (cpB (i + 1) (fun k => isE (yv k)) k)))), (qa3, .inl (T 2, 8, .inl (fun k => bI (cpB (i + 1) (fun k => isB (yv k)) k)))), (qa4, .inl (T 0, 8, .inl (fun k => nI (rkA yv i 0 k))))] := hD
        refine lv_iconst (v := 0) hx hb dX8_sort_69 (by decide) ?_
        refine zf_i (x' := nI 0) (rfl) ?_
        refine lv_istore (lv' := [(6, .int (nI 0)), (0, .ref q), (1, .ref qa1), (2, .ref qa2), (3, .ref qa3), (4, .ref qa4), (5, .int (nI i))]) hx hb dX8_sort_70 hl (by decide) rfl (fun ls hl => ?_)
        have lj : ∀ (n : Nat) (j : Nat), j + n = 8 → ∀ (H : Heap) (locs : List Loc), va_P D zcl [(q, .inr (4, [.ref a1, .ref a2, .ref a3, .ref a4, .ref a5, .int (nI n0), .int nc, .int (bI ne), .int 0])), (a1, .inl (T 0, 8, .inl (fun k => nI (yv k / 4)))), (a2, .inl (T 2, 8, .inl (fun k => bI (isE (yv k))))), (a3, .inl (T 2, 8, .inl (fun k => bI (isB (yv k))))), (a4, .inl (T 0, 60, .inl (fun k => nI (tw k / 4)))), (a5, .inl (T 2, 60, .inl (fun k => bI (isE (tw k))))), (qa1, .inl (T 0, 8, .inl (fun k => nI (cpN (i + 1) (fun k => yv k / 4) k)))), (qa2, .inl (T 2, 8, .inl (fun k => bI (cpB (i + 1) (fun k => isE (yv k)) k)))), (qa3, .inl (T 2, 8, .inl (fun k => bI (cpB (i + 1) (fun k => isB (yv k)) k)))), (qa4, .inl (T 0, 8, .inl (fun k => nI (rkA yv i j k))))] H → va_D A [(q, .inr (4, [.ref a1, .ref a2, .ref a3, .ref a4, .ref a5, .int (nI n0), .int nc, .int (bI ne), .int 0])), (a1, .inl (T 0, 8, .inl (fun k => nI (yv k / 4)))), (a2, .inl (T 2, 8, .inl (fun k => bI (isE (yv k))))), (a3, .inl (T 2, 8, .inl (fun k => bI (isB (yv k))))), (a4, .inl (T 0, 60, .inl (fun k => nI (tw k / 4)))), (a5, .inl (T 2, 60, .inl (fun k => bI (isE (tw k))))), (qa1, .inl (T 0, 8, .inl (fun k => nI (cpN (i + 1) (fun k => yv k / 4) k)))), (qa2, .inl (T 2, 8, .inl (fun k => bI (cpB (i + 1) (fun k => isE (yv k)) k)))), (qa3, .inl (T 2, 8, .inl (fun k => bI (cpB (i + 1) (fun k => isB (yv k)) k)))), (qa4, .inl (T 0, 8, .inl (fun k => nI (rkA yv i j k))))] → va_S A s.heap H locs → ∀ ls : Array Slot, lv_has ls 7 [(0, .ref q), (1, .ref qa1), (2, .ref qa2), (3, .ref qa3), (4, .ref qa4), (5, .int (nI i)), (6, .int (nI j))] → W zp l ze (zR 3 4 32) s zm args below zmeth zc H locs 4 32 (MQ below (zQh D A (some (.int (nI (mvN yv 8)))) (fun _ : Unit => [(q, .inr (4, [.ref a1, .ref a2, .ref a3, .ref a4, .ref a5, .int (nI n0), .int nc, .int (bI ne), .int 0])), (a1, .inl (T 0, 8, .inl (fun k => nI ((wrS yv 8) k / 4)))), (a2, .inl (T 2, 8, .inl (fun k => bI (isE ((wrS yv 8) k))))), (a3, .inl (T 2, 8, .inl (fun k => bI (isB ((wrS yv 8) k))))), (a4, .inl (T 0, 60, .inl (fun k => nI (tw k / 4)))), (a5, .inl (T 2, 60, .inl (fun k => bI (isE (tw k)))))])) args s 4 32 A) (F0 zm 72 ls []) := by
          intro n
          induction n with
          | zero =>
            intro j hj H locs hP hD hS ls hl
            have hj8 : j = 8 := by omega
            rw [hj8] at hl hP hD
            rw [rkA_up yv i] at hP hD
            refine lv_iload hx hb dX8_sort_72 (lv_at hl 6 rfl) ?_
            refine lv_bipush (v := 8) hx hb dX8_sort_74 (by decide) ?_
            refine lv_icmp_ge (tgt := 135) hx hb dX8_sort_76 (by decide) (fun h6 => ?_) (fun h6 => ?_)
            · refine lv_iinc (v := (nI (i + 1))) (lv' := [(5, .int (nI (i + 1))), (0, .ref q), (1, .ref qa1), (2, .ref qa2), (3, .ref qa3), (4, .ref qa4), (6, .int (nI 8))]) hx hb dX8_sort_135 hl (k := 5) rfl (nI_1 i) (by decide) rfl (fun ls hl => ?_)
              refine lv_goto (tgt := 29) hx hb dX8_sort_138 (by decide) ?_
              exact ih (i + 1) (by omega) _ _ hP hD hS ls (lv_sub hl [1, 2, 3, 4, 5, 0] rfl)
            · exact absurd (show (8 : Int32) ≤ nI 8 by decide) h6
          | succ n ih =>
            intro j hj H locs hP hD hS ls hl
            have hj8 : j < 8 := by omega
            refine lv_iload hx hb dX8_sort_72 (lv_at hl 6 rfl) ?_
            refine lv_bipush (v := 8) hx hb dX8_sort_74 (by decide) ?_
            refine lv_icmp_ge (tgt := 135) hx hb dX8_sort_76 (by decide) (fun h7 => ?_) (fun h7 => ?_)
            · exact absurd h7 (show ¬ nI 8 ≤ nI j from nI_ge (by omega) (by decide))
            · refine lv_aload hx hb dX8_sort_79 (lv_at hl 4 rfl) ?_
              refine lv_iload hx hb dX8_sort_81 (lv_at hl 5 rfl) ?_
              refine lv_dup2_11 hx hb dX8_sort_83 rfl rfl ?_
              refine za_iald hx hb hK hP 9 rfl i (rfl) (by omega) (by decide) dX8_sort_84 ?_
              refine zf_i (x' := nI (rkN yv i j)) (by rw [rkA_i]) ?_
              refine lv_aload_n hx hb dX8_sort_85 rfl (lv_at hl 0 rfl) ?_
              refine lv_iload hx hb dX8_sort_86 (lv_at hl 6 rfl) ?_
              refine zh_v (T := T) hx hb hml hown hts k_X8_72 (c_X8_signed l D T q a1 a2 a3 a4 a5 yv tw n0 nc ne 0 j hj8) ⟨by decide, by decide⟩ rfl hl.1 [.int (nI (rkN yv i j)), .int (nI i), .ref qa4] rfl (Nat.le_of_ble_eq_true rfl) dX8_sort_88 ⟨Nat.le_of_ble_eq_true rfl, Nat.le_of_ble_eq_true rfl⟩ hK hP hD hS hA (ci := 4) rfl rfl rfl [0, 1, 2, 3, 4, 5] [6, 7, 8, 9] (wr := [(qa1, .inl (T 0, 8, .inl (fun k => nI (cpN (i + 1) (fun k => yv k / 4) k)))), (qa2, .inl (T 2, 8, .inl (fun k => bI (cpB (i + 1) (fun k => isE (yv k)) k)))), (qa3, .inl (T 2, 8, .inl (fun k => bI (cpB (i + 1) (fun k => isB (yv k)) k)))), (qa4, .inl (T 0, 8, .inl (fun k => nI (rkA yv i j k))))]) rfl rfl (by decide) (by decide) (by decide) [4, 5, 6, 7, 8, 9, 0, 1, 2, 3] (fun _ => [(q, .inr (4, [.ref a1, .ref a2, .ref a3, .ref a4, .ref a5, .int (nI n0), .int nc, .int (bI ne), .int 0])), (a1, .inl (T 0, 8, .inl (fun k => nI (yv k / 4)))), (a2, .inl (T 2, 8, .inl (fun k => bI (isE (yv k))))), (a3, .inl (T 2, 8, .inl (fun k => bI (isB (yv k))))), (a4, .inl (T 0, 60, .inl (fun k => nI (tw k / 4)))), (a5, .inl (T 2, 60, .inl (fun k => bI (isE (tw k))))), (qa1, .inl (T 0, 8, .inl (fun k => nI (cpN (i + 1) (fun k => yv k / 4) k)))), (qa2, .inl (T 2, 8, .inl (fun k => bI (cpB (i + 1) (fun k => isE (yv k)) k)))), (qa3, .inl (T 2, 8, .inl (fun k => bI (cpB (i + 1) (fun k => isB (yv k)) k)))), (qa4, .inl (T 0, 8, .inl (fun k => nI (rkA yv i j k))))]) (by decide) (fun _ => rfl) (fun _ H locs hP hD hS => ?_)
              have hP : va_P D zcl [(q, .inr (4, [.ref a1, .ref a2, .ref a3, .ref a4, .ref a5, .int (nI n0), .int nc, .int (bI ne), .int 0])), (a1, .inl (T 0, 8, .inl (fun k => nI (yv k / 4)))), (a2, .inl (T 2, 8, .inl (fun k => bI (isE (yv k))))), (a3, .inl (T 2, 8, .inl (fun k => bI (isB (yv k))))), (a4, .inl (T 0, 60, .inl (fun k => nI (tw k / 4)))), (a5, .inl (T 2, 60, .inl (fun k => bI (isE (tw k))))), (qa1, .inl (T 0, 8, .inl (fun k => nI (cpN (i + 1) (fun k => yv k / 4) k)))), (qa2, .inl (T 2, 8, .inl (fun k => bI (cpB (i + 1) (fun k => isE (yv k)) k)))), (qa3, .inl (T 2, 8, .inl (fun k => bI (cpB (i + 1) (fun k => isB (yv k)) k)))), (qa4, .inl (T 0, 8, .inl (fun k => nI (rkA yv i j k))))] H := hP
              have hD : va_D A [(q, .inr (4, [.ref a1, .ref a2, .ref a3, .ref a4, .ref a5, .int (nI n0), .int nc, .int (bI ne), .int 0])), (a1, .inl (T 0, 8, .inl (fun k => nI (yv k / 4)))), (a2, .inl (T 2, 8, .inl (fun k => bI (isE (yv k))))), (a3, .inl (T 2, 8, .inl (fun k => bI (isB (yv k))))), (a4, .inl (T 0, 60, .inl (fun k => nI (tw k / 4)))), (a5, .inl (T 2, 60, .inl (fun k => bI (isE (tw k))))), (qa1, .inl (T 0, 8, .inl (fun k => nI (cpN (i + 1) (fun k => yv k / 4) k)))), (qa2, .inl (T 2, 8, .inl (fun k => bI (cpB (i + 1) (fun k => isE (yv k)) k)))), (qa3, .inl (T 2, 8, .inl (fun k => bI (cpB (i + 1) (fun k => isB (yv k)) k)))), (qa4, .inl (T 0, 8, .inl (fun k => nI (rkA yv i j k))))] := hD
              refine lv_aload_n hx hb dX8_sort_91 rfl (lv_at hl 0 rfl) ?_
              refine lv_iload hx hb dX8_sort_92 (lv_at hl 5 rfl) ?_
              refine zh_v (T := T) hx hb hml hown hts k_X8_72 (c_X8_signed l D T q a1 a2 a3 a4 a5 yv tw n0 nc ne 0 i hi8) ⟨by decide, by decide⟩ rfl hl.1 [.int (sgI (yv j)), .int (nI (rkN yv i j)), .int (nI i), .ref qa4] rfl (Nat.le_of_ble_eq_true rfl) dX8_sort_94 ⟨Nat.le_of_ble_eq_true rfl, Nat.le_of_ble_eq_true rfl⟩ hK hP hD hS hA (ci := 4) rfl rfl rfl [0, 1, 2, 3, 4, 5] [6, 7, 8, 9] (wr := [(qa1, .inl (T 0, 8, .inl (fun k => nI (cpN (i + 1) (fun k => yv k / 4) k)))), (qa2, .inl (T 2, 8, .inl (fun k => bI (cpB (i + 1) (fun k => isE (yv k)) k)))), (qa3, .inl (T 2, 8, .inl (fun k => bI (cpB (i + 1) (fun k => isB (yv k)) k)))), (qa4, .inl (T 0, 8, .inl (fun k => nI (rkA yv i j k))))]) rfl rfl (by decide) (by decide) (by decide) [4, 5, 6, 7, 8, 9, 0, 1, 2, 3] (fun _ => [(q, .inr (4, [.ref a1, .ref a2, .ref a3, .ref a4, .ref a5, .int (nI n0), .int nc, .int (bI ne), .int 0])), (a1, .inl (T 0, 8, .inl (fun k => nI (yv k / 4)))), (a2, .inl (T 2, 8, .inl (fun k => bI (isE (yv k))))), (a3, .inl (T 2, 8, .inl (fun k => bI (isB (yv k))))), (a4, .inl (T 0, 60, .inl (fun k => nI (tw k / 4)))), (a5, .inl (T 2, 60, .inl (fun k => bI (isE (tw k))))), (qa1, .inl (T 0, 8, .inl (fun k => nI (cpN (i + 1) (fun k => yv k / 4) k)))), (qa2, .inl (T 2, 8, .inl (fun k => bI (cpB (i + 1) (fun k => isE (yv k)) k)))), (qa3, .inl (T 2, 8, .inl (fun k => bI (cpB (i + 1) (fun k => isB (yv k)) k)))), (qa4, .inl (T 0, 8, .inl (fun k => nI (rkA yv i j k))))]) (by decide) (fun _ => rfl) (fun _ H locs hP hD hS => ?_)
              have hP : va_P D zcl [(q, .inr (4, [.ref a1, .ref a2, .ref a3, .ref a4, .ref a5, .int (nI n0), .int nc, .int (bI ne), .int 0])), (a1, .inl (T 0, 8, .inl (fun k => nI (yv k / 4)))), (a2, .inl (T 2, 8, .inl (fun k => bI (isE (yv k))))), (a3, .inl (T 2, 8, .inl (fun k => bI (isB (yv k))))), (a4, .inl (T 0, 60, .inl (fun k => nI (tw k / 4)))), (a5, .inl (T 2, 60, .inl (fun k => bI (isE (tw k))))), (qa1, .inl (T 0, 8, .inl (fun k => nI (cpN (i + 1) (fun k => yv k / 4) k)))), (qa2, .inl (T 2, 8, .inl (fun k => bI (cpB (i + 1) (fun k => isE (yv k)) k)))), (qa3, .inl (T 2, 8, .inl (fun k => bI (cpB (i + 1) (fun k => isB (yv k)) k)))), (qa4, .inl (T 0, 8, .inl (fun k => nI (rkA yv i j k))))] H := hP
              have hD : va_D A [(q, .inr (4, [.ref a1, .ref a2, .ref a3, .ref a4, .ref a5, .int (nI n0), .int nc, .int (bI ne), .int 0])), (a1, .inl (T 0, 8, .inl (fun k => nI (yv k / 4)))), (a2, .inl (T 2, 8, .inl (fun k => bI (isE (yv k))))), (a3, .inl (T 2, 8, .inl (fun k => bI (isB (yv k))))), (a4, .inl (T 0, 60, .inl (fun k => nI (tw k / 4)))), (a5, .inl (T 2, 60, .inl (fun k => bI (isE (tw k))))), (qa1, .inl (T 0, 8, .inl (fun k => nI (cpN (i + 1) (fun k => yv k / 4) k)))), (qa2, .inl (T 2, 8, .inl (fun k => bI (cpB (i + 1) (fun k => isE (yv k)) k)))), (qa3, .inl (T 2, 8, .inl (fun k => bI (cpB (i + 1) (fun k => isB (yv k)) k)))), (qa4, .inl (T 0, 8, .inl (fun k => nI (rkA yv i j k))))] := hD
              refine lv_icmp_lt (tgt := 122) hx hb dX8_sort_97 (by decide) (fun h8 => ?_) (fun h8 => ?_)
              · refine lv_iconst (v := 1) hx hb dX8_sort_122 (by decide) ?_
                refine lv_goto (tgt := 127) hx hb dX8_sort_123 (by decide) ?_
                refine lv_iadd hx hb dX8_sort_127 ?_
                refine zf_i (x' := nI (rkN yv i (j + 1))) ((nI_1 _).trans (by rw [rk_1 (lI_d hy h8)])) ?_
                refine za_iast hx hb hK hP hD hS 9 rfl i (rfl) (by omega) (by decide) (fun k => nI (rkA yv i (j + 1) k)) (rkA_s yv i j) dX8_sort_128 (fun H locs hP hD hS => ?_)
                have hP : va_P D zcl [(q, .inr (4, [.ref a1, .ref a2, .ref a3, .ref a4, .ref a5, .int (nI n0), .int nc, .int (bI ne), .int 0])), (a1, .inl (T 0, 8, .inl (fun k => nI (yv k / 4)))), (a2, .inl (T 2, 8, .inl (fun k => bI (isE (yv k))))), (a3, .inl (T 2, 8, .inl (fun k => bI (isB (yv k))))), (a4, .inl (T 0, 60, .inl (fun k => nI (tw k / 4)))), (a5, .inl (T 2, 60, .inl (fun k => bI (isE (tw k))))), (qa1, .inl (T 0, 8, .inl (fun k => nI (cpN (i + 1) (fun k => yv k / 4) k)))), (qa2, .inl (T 2, 8, .inl (fun k => bI (cpB (i + 1) (fun k => isE (yv k)) k)))), (qa3, .inl (T 2, 8, .inl (fun k => bI (cpB (i + 1) (fun k => isB (yv k)) k)))), (qa4, .inl (T 0, 8, .inl (fun k => nI (rkA yv i (j + 1) k))))] H := hP
                have hD : va_D A [(q, .inr (4, [.ref a1, .ref a2, .ref a3, .ref a4, .ref a5, .int (nI n0), .int nc, .int (bI ne), .int 0])), (a1, .inl (T 0, 8, .inl (fun k => nI (yv k / 4)))), (a2, .inl (T 2, 8, .inl (fun k => bI (isE (yv k))))), (a3, .inl (T 2, 8, .inl (fun k => bI (isB (yv k))))), (a4, .inl (T 0, 60, .inl (fun k => nI (tw k / 4)))), (a5, .inl (T 2, 60, .inl (fun k => bI (isE (tw k))))), (qa1, .inl (T 0, 8, .inl (fun k => nI (cpN (i + 1) (fun k => yv k / 4) k)))), (qa2, .inl (T 2, 8, .inl (fun k => bI (cpB (i + 1) (fun k => isE (yv k)) k)))), (qa3, .inl (T 2, 8, .inl (fun k => bI (cpB (i + 1) (fun k => isB (yv k)) k)))), (qa4, .inl (T 0, 8, .inl (fun k => nI (rkA yv i (j + 1) k))))] := hD
                refine lv_iinc (v := (nI (j + 1))) (lv' := [(6, .int (nI (j + 1))), (0, .ref q), (1, .ref qa1), (2, .ref qa2), (3, .ref qa3), (4, .ref qa4), (5, .int (nI i))]) hx hb dX8_sort_129 hl (k := 6) rfl (nI_1 j) (by decide) rfl (fun ls hl => ?_)
                refine lv_goto (tgt := 72) hx hb dX8_sort_132 (by decide) ?_
                exact ih (j + 1) (by omega) _ _ hP hD hS ls (lv_sub hl [1, 2, 3, 4, 5, 6, 0] rfl)
              · refine lv_aload_n hx hb dX8_sort_100 rfl (lv_at hl 0 rfl) ?_
                refine lv_iload hx hb dX8_sort_101 (lv_at hl 6 rfl) ?_
                refine zh_v (T := T) hx hb hml hown hts k_X8_72 (c_X8_signed l D T q a1 a2 a3 a4 a5 yv tw n0 nc ne 0 j hj8) ⟨by decide, by decide⟩ rfl hl.1 [.int (nI (rkN yv i j)), .int (nI i), .ref qa4] rfl (Nat.le_of_ble_eq_true rfl) dX8_sort_103 ⟨Nat.le_of_ble_eq_true rfl, Nat.le_of_ble_eq_true rfl⟩ hK hP hD hS hA (ci := 4) rfl rfl rfl [0, 1, 2, 3, 4, 5] [6, 7, 8, 9] (wr := [(qa1, .inl (T 0, 8, .inl (fun k => nI (cpN (i + 1) (fun k => yv k / 4) k)))), (qa2, .inl (T 2, 8, .inl (fun k => bI (cpB (i + 1) (fun k => isE (yv k)) k)))), (qa3, .inl (T 2, 8, .inl (fun k => bI (cpB (i + 1) (fun k => isB (yv k)) k)))), (qa4, .inl (T 0, 8, .inl (fun k => nI (rkA yv i j k))))]) rfl rfl (by decide) (by decide) (by decide) [4, 5, 6, 7, 8, 9, 0, 1, 2, 3] (fun _ => [(q, .inr (4, [.ref a1, .ref a2, .ref a3, .ref a4, .ref a5, .int (nI n0), .int nc, .int (bI ne), .int 0])), (a1, .inl (T 0, 8, .inl (fun k => nI (yv k / 4)))), (a2, .inl (T 2, 8, .inl (fun k => bI (isE (yv k))))), (a3, .inl (T 2, 8, .inl (fun k => bI (isB (yv k))))), (a4, .inl (T 0, 60, .inl (fun k => nI (tw k / 4)))), (a5, .inl (T 2, 60, .inl (fun k => bI (isE (tw k))))), (qa1, .inl (T 0, 8, .inl (fun k => nI (cpN (i + 1) (fun k => yv k / 4) k)))), (qa2, .inl (T 2, 8, .inl (fun k => bI (cpB (i + 1) (fun k => isE (yv k)) k)))), (qa3, .inl (T 2, 8, .inl (fun k => bI (cpB (i + 1) (fun k => isB (yv k)) k)))), (qa4, .inl (T 0, 8, .inl (fun k => nI (rkA yv i j k))))]) (by decide) (fun _ => rfl) (fun _ H locs hP hD hS => ?_)
                have hP : va_P D zcl [(q, .inr (4, [.ref a1, .ref a2, .ref a3, .ref a4, .ref a5, .int (nI n0), .int nc, .int (bI ne), .int 0])), (a1, .inl (T 0, 8, .inl (fun k => nI (yv k / 4)))), (a2, .inl (T 2, 8, .inl (fun k => bI (isE (yv k))))), (a3, .inl (T 2, 8, .inl (fun k => bI (isB (yv k))))), (a4, .inl (T 0, 60, .inl (fun k => nI (tw k / 4)))), (a5, .inl (T 2, 60, .inl (fun k => bI (isE (tw k))))), (qa1, .inl (T 0, 8, .inl (fun k => nI (cpN (i + 1) (fun k => yv k / 4) k)))), (qa2, .inl (T 2, 8, .inl (fun k => bI (cpB (i + 1) (fun k => isE (yv k)) k)))), (qa3, .inl (T 2, 8, .inl (fun k => bI (cpB (i + 1) (fun k => isB (yv k)) k)))), (qa4, .inl (T 0, 8, .inl (fun k => nI (rkA yv i j k))))] H := hP
                have hD : va_D A [(q, .inr (4, [.ref a1, .ref a2, .ref a3, .ref a4, .ref a5, .int (nI n0), .int nc, .int (bI ne), .int 0])), (a1, .inl (T 0, 8, .inl (fun k => nI (yv k / 4)))), (a2, .inl (T 2, 8, .inl (fun k => bI (isE (yv k))))), (a3, .inl (T 2, 8, .inl (fun k => bI (isB (yv k))))), (a4, .inl (T 0, 60, .inl (fun k => nI (tw k / 4)))), (a5, .inl (T 2, 60, .inl (fun k => bI (isE (tw k))))), (qa1, .inl (T 0, 8, .inl (fun k => nI (cpN (i + 1) (fun k => yv k / 4) k)))), (qa2, .inl (T 2, 8, .inl (fun k => bI (cpB (i + 1) (fun k => isE (yv k)) k)))), (qa3, .inl (T 2, 8, .inl (fun k => bI (cpB (i + 1) (fun k => isB (yv k)) k)))), (qa4, .inl (T 0, 8, .inl (fun k => nI (rkA yv i j k))))] := hD
                refine lv_aload_n hx hb dX8_sort_106 rfl (lv_at hl 0 rfl) ?_
                refine lv_iload hx hb dX8_sort_107 (lv_at hl 5 rfl) ?_
                refine zh_v (T := T) hx hb hml hown hts k_X8_72 (c_X8_signed l D T q a1 a2 a3 a4 a5 yv tw n0 nc ne 0 i hi8) ⟨by decide, by decide⟩ rfl hl.1 [.int (sgI (yv j)), .int (nI (rkN yv i j)), .int (nI i), .ref qa4] rfl (Nat.le_of_ble_eq_true rfl) dX8_sort_109 ⟨Nat.le_of_ble_eq_true rfl, Nat.le_of_ble_eq_true rfl⟩ hK hP hD hS hA (ci := 4) rfl rfl rfl [0, 1, 2, 3, 4, 5] [6, 7, 8, 9] (wr := [(qa1, .inl (T 0, 8, .inl (fun k => nI (cpN (i + 1) (fun k => yv k / 4) k)))), (qa2, .inl (T 2, 8, .inl (fun k => bI (cpB (i + 1) (fun k => isE (yv k)) k)))), (qa3, .inl (T 2, 8, .inl (fun k => bI (cpB (i + 1) (fun k => isB (yv k)) k)))), (qa4, .inl (T 0, 8, .inl (fun k => nI (rkA yv i j k))))]) rfl rfl (by decide) (by decide) (by decide) [4, 5, 6, 7, 8, 9, 0, 1, 2, 3] (fun _ => [(q, .inr (4, [.ref a1, .ref a2, .ref a3, .ref a4, .ref a5, .int (nI n0), .int nc, .int (bI ne), .int 0])), (a1, .inl (T 0, 8, .inl (fun k => nI (yv k / 4)))), (a2, .inl (T 2, 8, .inl (fun k => bI (isE (yv k))))), (a3, .inl (T 2, 8, .inl (fun k => bI (isB (yv k))))), (a4, .inl (T 0, 60, .inl (fun k => nI (tw k / 4)))), (a5, .inl (T 2, 60, .inl (fun k => bI (isE (tw k))))), (qa1, .inl (T 0, 8, .inl (fun k => nI (cpN (i + 1) (fun k => yv k / 4) k)))), (qa2, .inl (T 2, 8, .inl (fun k => bI (cpB (i + 1) (fun k => isE (yv k)) k)))), (qa3, .inl (T 2, 8, .inl (fun k => bI (cpB (i + 1) (fun k => isB (yv k)) k)))), (qa4, .inl (T 0, 8, .inl (fun k => nI (rkA yv i j k))))]) (by decide) (fun _ => rfl) (fun _ H locs hP hD hS => ?_)
                have hP : va_P D zcl [(q, .inr (4, [.ref a1, .ref a2, .ref a3, .ref a4, .ref a5, .int (nI n0), .int nc, .int (bI ne), .int 0])), (a1, .inl (T 0, 8, .inl (fun k => nI (yv k / 4)))), (a2, .inl (T 2, 8, .inl (fun k => bI (isE (yv k))))), (a3, .inl (T 2, 8, .inl (fun k => bI (isB (yv k))))), (a4, .inl (T 0, 60, .inl (fun k => nI (tw k / 4)))), (a5, .inl (T 2, 60, .inl (fun k => bI (isE (tw k))))), (qa1, .inl (T 0, 8, .inl (fun k => nI (cpN (i + 1) (fun k => yv k / 4) k)))), (qa2, .inl (T 2, 8, .inl (fun k => bI (cpB (i + 1) (fun k => isE (yv k)) k)))), (qa3, .inl (T 2, 8, .inl (fun k => bI (cpB (i + 1) (fun k => isB (yv k)) k)))), (qa4, .inl (T 0, 8, .inl (fun k => nI (rkA yv i j k))))] H := hP
                have hD : va_D A [(q, .inr (4, [.ref a1, .ref a2, .ref a3, .ref a4, .ref a5, .int (nI n0), .int nc, .int (bI ne), .int 0])), (a1, .inl (T 0, 8, .inl (fun k => nI (yv k / 4)))), (a2, .inl (T 2, 8, .inl (fun k => bI (isE (yv k))))), (a3, .inl (T 2, 8, .inl (fun k => bI (isB (yv k))))), (a4, .inl (T 0, 60, .inl (fun k => nI (tw k / 4)))), (a5, .inl (T 2, 60, .inl (fun k => bI (isE (tw k))))), (qa1, .inl (T 0, 8, .inl (fun k => nI (cpN (i + 1) (fun k => yv k / 4) k)))), (qa2, .inl (T 2, 8, .inl (fun k => bI (cpB (i + 1) (fun k => isE (yv k)) k)))), (qa3, .inl (T 2, 8, .inl (fun k => bI (cpB (i + 1) (fun k => isB (yv k)) k)))), (qa4, .inl (T 0, 8, .inl (fun k => nI (rkA yv i j k))))] := hD
                refine lv_icmp_ne (tgt := 126) hx hb dX8_sort_112 (by decide) (fun h9 => ?_) (fun h9 => ?_)
                · refine lv_iconst (v := 0) hx hb dX8_sort_126 (by decide) ?_
                  refine lv_iadd hx hb dX8_sort_127 ?_
                  refine zf_i (x' := nI (rkN yv i (j + 1))) ((Int32.add_zero _).trans (by rw [rk_0 (lI_f hy h8 (Or.inl h9))])) ?_
                  refine za_iast hx hb hK hP hD hS 9 rfl i (rfl) (by omega) (by decide) (fun k => nI (rkA yv i (j + 1) k)) (rkA_s yv i j) dX8_sort_128 (fun H locs hP hD hS => ?_)
                  have hP : va_P D zcl [(q, .inr (4, [.ref a1, .ref a2, .ref a3, .ref a4, .ref a5, .int (nI n0), .int nc, .int (bI ne), .int 0])), (a1, .inl (T 0, 8, .inl (fun k => nI (yv k / 4)))), (a2, .inl (T 2, 8, .inl (fun k => bI (isE (yv k))))), (a3, .inl (T 2, 8, .inl (fun k => bI (isB (yv k))))), (a4, .inl (T 0, 60, .inl (fun k => nI (tw k / 4)))), (a5, .inl (T 2, 60, .inl (fun k => bI (isE (tw k))))), (qa1, .inl (T 0, 8, .inl (fun k => nI (cpN (i + 1) (fun k => yv k / 4) k)))), (qa2, .inl (T 2, 8, .inl (fun k => bI (cpB (i + 1) (fun k => isE (yv k)) k)))), (qa3, .inl (T 2, 8, .inl (fun k => bI (cpB (i + 1) (fun k => isB (yv k)) k)))), (qa4, .inl (T 0, 8, .inl (fun k => nI (rkA yv i (j + 1) k))))] H := hP
                  have hD : va_D A [(q, .inr (4, [.ref a1, .ref a2, .ref a3, .ref a4, .ref a5, .int (nI n0), .int nc, .int (bI ne), .int 0])), (a1, .inl (T 0, 8, .inl (fun k => nI (yv k / 4)))), (a2, .inl (T 2, 8, .inl (fun k => bI (isE (yv k))))), (a3, .inl (T 2, 8, .inl (fun k => bI (isB (yv k))))), (a4, .inl (T 0, 60, .inl (fun k => nI (tw k / 4)))), (a5, .inl (T 2, 60, .inl (fun k => bI (isE (tw k))))), (qa1, .inl (T 0, 8, .inl (fun k => nI (cpN (i + 1) (fun k => yv k / 4) k)))), (qa2, .inl (T 2, 8, .inl (fun k => bI (cpB (i + 1) (fun k => isE (yv k)) k)))), (qa3, .inl (T 2, 8, .inl (fun k => bI (cpB (i + 1) (fun k => isB (yv k)) k)))), (qa4, .inl (T 0, 8, .inl (fun k => nI (rkA yv i (j + 1) k))))] := hD
                  refine lv_iinc (v := (nI (j + 1))) (lv' := [(6, .int (nI (j + 1))), (0, .ref q), (1, .ref qa1), (2, .ref qa2), (3, .ref qa3), (4, .ref qa4), (5, .int (nI i))]) hx hb dX8_sort_129 hl (k := 6) rfl (nI_1 j) (by decide) rfl (fun ls hl => ?_)
                  refine lv_goto (tgt := 72) hx hb dX8_sort_132 (by decide) ?_
                  exact ih (j + 1) (by omega) _ _ hP hD hS ls (lv_sub hl [1, 2, 3, 4, 5, 6, 0] rfl)
                · refine lv_iload hx hb dX8_sort_115 (lv_at hl 6 rfl) ?_
                  refine lv_iload hx hb dX8_sort_117 (lv_at hl 5 rfl) ?_
                  refine lv_icmp_ge (tgt := 126) hx hb dX8_sort_119 (by decide) (fun h10 => ?_) (fun h10 => ?_)
                  · refine lv_iconst (v := 0) hx hb dX8_sort_126 (by decide) ?_
                    refine lv_iadd hx hb dX8_sort_127 ?_
                    refine zf_i (x' := nI (rkN yv i (j + 1))) ((Int32.add_zero _).trans (by rw [rk_0 (lI_f hy h8 (Or.inr (Nat.not_lt.mp fun q => absurd h10 (nI_ge q (by omega)))))])) ?_
                    refine za_iast hx hb hK hP hD hS 9 rfl i (rfl) (by omega) (by decide) (fun k => nI (rkA yv i (j + 1) k)) (rkA_s yv i j) dX8_sort_128 (fun H locs hP hD hS => ?_)
                    have hP : va_P D zcl [(q, .inr (4, [.ref a1, .ref a2, .ref a3, .ref a4, .ref a5, .int (nI n0), .int nc, .int (bI ne), .int 0])), (a1, .inl (T 0, 8, .inl (fun k => nI (yv k / 4)))), (a2, .inl (T 2, 8, .inl (fun k => bI (isE (yv k))))), (a3, .inl (T 2, 8, .inl (fun k => bI (isB (yv k))))), (a4, .inl (T 0, 60, .inl (fun k => nI (tw k / 4)))), (a5, .inl (T 2, 60, .inl (fun k => bI (isE (tw k))))), (qa1, .inl (T 0, 8, .inl (fun k => nI (cpN (i + 1) (fun k => yv k / 4) k)))), (qa2, .inl (T 2, 8, .inl (fun k => bI (cpB (i + 1) (fun k => isE (yv k)) k)))), (qa3, .inl (T 2, 8, .inl (fun k => bI (cpB (i + 1) (fun k => isB (yv k)) k)))), (qa4, .inl (T 0, 8, .inl (fun k => nI (rkA yv i (j + 1) k))))] H := hP
                    have hD : va_D A [(q, .inr (4, [.ref a1, .ref a2, .ref a3, .ref a4, .ref a5, .int (nI n0), .int nc, .int (bI ne), .int 0])), (a1, .inl (T 0, 8, .inl (fun k => nI (yv k / 4)))), (a2, .inl (T 2, 8, .inl (fun k => bI (isE (yv k))))), (a3, .inl (T 2, 8, .inl (fun k => bI (isB (yv k))))), (a4, .inl (T 0, 60, .inl (fun k => nI (tw k / 4)))), (a5, .inl (T 2, 60, .inl (fun k => bI (isE (tw k))))), (qa1, .inl (T 0, 8, .inl (fun k => nI (cpN (i + 1) (fun k => yv k / 4) k)))), (qa2, .inl (T 2, 8, .inl (fun k => bI (cpB (i + 1) (fun k => isE (yv k)) k)))), (qa3, .inl (T 2, 8, .inl (fun k => bI (cpB (i + 1) (fun k => isB (yv k)) k)))), (qa4, .inl (T 0, 8, .inl (fun k => nI (rkA yv i (j + 1) k))))] := hD
                    refine lv_iinc (v := (nI (j + 1))) (lv' := [(6, .int (nI (j + 1))), (0, .ref q), (1, .ref qa1), (2, .ref qa2), (3, .ref qa3), (4, .ref qa4), (5, .int (nI i))]) hx hb dX8_sort_129 hl (k := 6) rfl (nI_1 j) (by decide) rfl (fun ls hl => ?_)
                    refine lv_goto (tgt := 72) hx hb dX8_sort_132 (by decide) ?_
                    exact ih (j + 1) (by omega) _ _ hP hD hS ls (lv_sub hl [1, 2, 3, 4, 5, 6, 0] rfl)
                  · refine lv_iconst (v := 1) hx hb dX8_sort_122 (by decide) ?_
                    refine lv_goto (tgt := 127) hx hb dX8_sort_123 (by decide) ?_
                    refine lv_iadd hx hb dX8_sort_127 ?_
                    refine zf_i (x' := nI (rkN yv i (j + 1))) ((nI_1 _).trans (by rw [rk_1 (lI_e hy h9 (Nat.not_le.mp fun q => h10 (nI_le q (by omega))))])) ?_
                    refine za_iast hx hb hK hP hD hS 9 rfl i (rfl) (by omega) (by decide) (fun k => nI (rkA yv i (j + 1) k)) (rkA_s yv i j) dX8_sort_128 (fun H locs hP hD hS => ?_)
                    have hP : va_P D zcl [(q, .inr (4, [.ref a1, .ref a2, .ref a3, .ref a4, .ref a5, .int (nI n0), .int nc, .int (bI ne), .int 0])), (a1, .inl (T 0, 8, .inl (fun k => nI (yv k / 4)))), (a2, .inl (T 2, 8, .inl (fun k => bI (isE (yv k))))), (a3, .inl (T 2, 8, .inl (fun k => bI (isB (yv k))))), (a4, .inl (T 0, 60, .inl (fun k => nI (tw k / 4)))), (a5, .inl (T 2, 60, .inl (fun k => bI (isE (tw k))))), (qa1, .inl (T 0, 8, .inl (fun k => nI (cpN (i + 1) (fun k => yv k / 4) k)))), (qa2, .inl (T 2, 8, .inl (fun k => bI (cpB (i + 1) (fun k => isE (yv k)) k)))), (qa3, .inl (T 2, 8, .inl (fun k => bI (cpB (i + 1) (fun k => isB (yv k)) k)))), (qa4, .inl (T 0, 8, .inl (fun k => nI (rkA yv i (j + 1) k))))] H := hP
                    have hD : va_D A [(q, .inr (4, [.ref a1, .ref a2, .ref a3, .ref a4, .ref a5, .int (nI n0), .int nc, .int (bI ne), .int 0])), (a1, .inl (T 0, 8, .inl (fun k => nI (yv k / 4)))), (a2, .inl (T 2, 8, .inl (fun k => bI (isE (yv k))))), (a3, .inl (T 2, 8, .inl (fun k => bI (isB (yv k))))), (a4, .inl (T 0, 60, .inl (fun k => nI (tw k / 4)))), (a5, .inl (T 2, 60, .inl (fun k => bI (isE (tw k))))), (qa1, .inl (T 0, 8, .inl (fun k => nI (cpN (i + 1) (fun k => yv k / 4) k)))), (qa2, .inl (T 2, 8, .inl (fun k => bI (cpB (i + 1) (fun k => isE (yv k)) k)))), (qa3, .inl (T 2, 8, .inl (fun k => bI (cpB (i + 1) (fun k => isB (yv k)) k)))), (qa4, .inl (T 0, 8, .inl (fun k => nI (rkA yv i (j + 1) k))))] := hD
                    refine lv_iinc (v := (nI (j + 1))) (lv' := [(6, .int (nI (j + 1))), (0, .ref q), (1, .ref qa1), (2, .ref qa2), (3, .ref qa3), (4, .ref qa4), (5, .int (nI i))]) hx hb dX8_sort_129 hl (k := 6) rfl (nI_1 j) (by decide) rfl (fun ls hl => ?_)
                    refine lv_goto (tgt := 72) hx hb dX8_sort_132 (by decide) ?_
                    exact ih (j + 1) (by omega) _ _ hP hD hS ls (lv_sub hl [1, 2, 3, 4, 5, 6, 0] rfl)
        exact lj 8 0 (by omega) _ _ hP hD hS ls (lv_sub hl [1, 2, 3, 4, 5, 6, 0] rfl)
  exact lp 8 0 (by omega) _ _ hP hD hS ls (lv_sub hl [5, 4, 3, 2, 1, 0] rfl)
set_option maxRecDepth 20000 in
theorem c_X8_bits_ok (l : Launch) (D : va_G) (T : Nat → ClassId) (q a1 a2 a3 a4 a5 : Nat) (yv tw : Nat → Nat) (n0 : Nat) (nc : Int32) (ne : Bool) (th : Int32) (p : Nat) (hp : p < 8) (he : exB (eig (yv p)) = true) (hy : ∀ k, yv k < 262144) : Hm l yX8_bits cX8_bits 8 (some FieldType.long) 2 0 0 D T [.ref q, .int (nI p)] [(q, .inr (4, [.ref a1, .ref a2, .ref a3, .ref a4, .ref a5, .int (nI n0), .int nc, .int (bI ne), .int th])), (a1, .inl (T 0, 8, .inl (fun k => nI (yv k / 4)))), (a2, .inl (T 2, 8, .inl (fun k => bI (isE (yv k))))), (a3, .inl (T 2, 8, .inl (fun k => bI (isB (yv k))))), (a4, .inl (T 0, 60, .inl (fun k => nI (tw k / 4)))), (a5, .inl (T 2, 60, .inl (fun k => bI (isE (tw k)))))] (some (.long (btL (isB (yv p)) (rt (eig (yv p)))))) (fun _ : Unit => [(q, .inr (4, [.ref a1, .ref a2, .ref a3, .ref a4, .ref a5, .int (nI n0), .int nc, .int (bI ne), .int 0])), (a1, .inl (T 0, 8, .inl (fun k => nI (yv k / 4)))), (a2, .inl (T 2, 8, .inl (fun k => bI (isE (yv k))))), (a3, .inl (T 2, 8, .inl (fun k => bI (isB (yv k))))), (a4, .inl (T 0, 60, .inl (fun k => nI (tw k / 4)))), (a5, .inl (T 2, 60, .inl (fun k => bI (isE (tw k)))))]) := by
  refine Hm.of (by decide) (Nat.le_of_ble_eq_true rfl) ?_
  intro zp ze s zm args below zmeth zc hx hb hr hml hown hin hts hlocks A hA hP hK hD hS ls hl
  have hl : lv_has ls 8 [(0, .ref q), (1, .int (nI p))] := hl
  have hr16 := rt_lt16 (eig (yv p))
  refine lv_aload_n hx hb dX8_bits_0 rfl (lv_at hl 0 rfl) ?_
  refine lv_iload_n hx hb dX8_bits_1 rfl (lv_at hl 1 rfl) ?_
  refine zh_v (T := T) hx hb hml hown hts k_X8_69 (c_X8_isPlace_ok l D T q a1 a2 a3 a4 a5 yv tw n0 nc ne th p hp) ⟨by decide, by decide⟩ rfl hl.1 [] rfl (Nat.le_of_ble_eq_true rfl) dX8_bits_2 ⟨Nat.le_of_ble_eq_true rfl, Nat.le_of_ble_eq_true rfl⟩ hK hP hD hS hA (ci := 4) rfl rfl rfl [0, 1, 2, 3, 4, 5] [] (wr := []) rfl rfl (by decide) (by decide) (by decide) [0, 1, 2, 3, 4, 5] (fun _ => [(q, .inr (4, [.ref a1, .ref a2, .ref a3, .ref a4, .ref a5, .int (nI n0), .int nc, .int (bI ne), .int 0])), (a1, .inl (T 0, 8, .inl (fun k => nI (yv k / 4)))), (a2, .inl (T 2, 8, .inl (fun k => bI (isE (yv k))))), (a3, .inl (T 2, 8, .inl (fun k => bI (isB (yv k))))), (a4, .inl (T 0, 60, .inl (fun k => nI (tw k / 4)))), (a5, .inl (T 2, 60, .inl (fun k => bI (isE (tw k)))))]) (by decide) (fun _ => rfl) (fun _ H locs hP hD hS => ?_)
  have hP : va_P D zcl [(q, .inr (4, [.ref a1, .ref a2, .ref a3, .ref a4, .ref a5, .int (nI n0), .int nc, .int (bI ne), .int 0])), (a1, .inl (T 0, 8, .inl (fun k => nI (yv k / 4)))), (a2, .inl (T 2, 8, .inl (fun k => bI (isE (yv k))))), (a3, .inl (T 2, 8, .inl (fun k => bI (isB (yv k))))), (a4, .inl (T 0, 60, .inl (fun k => nI (tw k / 4)))), (a5, .inl (T 2, 60, .inl (fun k => bI (isE (tw k)))))] H := hP
  have hD : va_D A [(q, .inr (4, [.ref a1, .ref a2, .ref a3, .ref a4, .ref a5, .int (nI n0), .int nc, .int (bI ne), .int 0])), (a1, .inl (T 0, 8, .inl (fun k => nI (yv k / 4)))), (a2, .inl (T 2, 8, .inl (fun k => bI (isE (yv k))))), (a3, .inl (T 2, 8, .inl (fun k => bI (isB (yv k))))), (a4, .inl (T 0, 60, .inl (fun k => nI (tw k / 4)))), (a5, .inl (T 2, 60, .inl (fun k => bI (isE (tw k)))))] := hD
  refine zb_ne (tgt := 10) hx hb dX8_bits_5 (by decide) (fun h1 => ?_) (fun h1 => ?_)
  · refine lv_aload_n hx hb dX8_bits_10 rfl (lv_at hl 0 rfl) ?_
    refine lv_iload_n hx hb dX8_bits_11 rfl (lv_at hl 1 rfl) ?_
    refine zh_v (T := T) hx hb hml hown hts k_X8_39 (c_X8_size l D T q a1 a2 a3 a4 a5 yv tw n0 nc ne 0 p hp) ⟨by decide, by decide⟩ rfl hl.1 [] rfl (Nat.le_of_ble_eq_true rfl) dX8_bits_12 ⟨Nat.le_of_ble_eq_true rfl, Nat.le_of_ble_eq_true rfl⟩ hK hP hD hS hA (ci := 4) rfl rfl rfl [0, 1, 2, 3, 4, 5] [] (wr := []) rfl rfl (by decide) (by decide) (by decide) [0, 1, 2, 3, 4, 5] (fun _ => [(q, .inr (4, [.ref a1, .ref a2, .ref a3, .ref a4, .ref a5, .int (nI n0), .int nc, .int (bI ne), .int 0])), (a1, .inl (T 0, 8, .inl (fun k => nI (yv k / 4)))), (a2, .inl (T 2, 8, .inl (fun k => bI (isE (yv k))))), (a3, .inl (T 2, 8, .inl (fun k => bI (isB (yv k))))), (a4, .inl (T 0, 60, .inl (fun k => nI (tw k / 4)))), (a5, .inl (T 2, 60, .inl (fun k => bI (isE (tw k)))))]) (by decide) (fun _ => rfl) (fun _ H locs hP hD hS => ?_)
    have hP : va_P D zcl [(q, .inr (4, [.ref a1, .ref a2, .ref a3, .ref a4, .ref a5, .int (nI n0), .int nc, .int (bI ne), .int 0])), (a1, .inl (T 0, 8, .inl (fun k => nI (yv k / 4)))), (a2, .inl (T 2, 8, .inl (fun k => bI (isE (yv k))))), (a3, .inl (T 2, 8, .inl (fun k => bI (isB (yv k))))), (a4, .inl (T 0, 60, .inl (fun k => nI (tw k / 4)))), (a5, .inl (T 2, 60, .inl (fun k => bI (isE (tw k)))))] H := hP
    have hD : va_D A [(q, .inr (4, [.ref a1, .ref a2, .ref a3, .ref a4, .ref a5, .int (nI n0), .int nc, .int (bI ne), .int 0])), (a1, .inl (T 0, 8, .inl (fun k => nI (yv k / 4)))), (a2, .inl (T 2, 8, .inl (fun k => bI (isE (yv k))))), (a3, .inl (T 2, 8, .inl (fun k => bI (isB (yv k))))), (a4, .inl (T 0, 60, .inl (fun k => nI (tw k / 4)))), (a5, .inl (T 2, 60, .inl (fun k => bI (isE (tw k)))))] := hD
    refine zp_call hx hb hml hown hts k_X8_77 (c_X8_halves l (eig (yv p)) (eig20 (hy p))) ⟨by decide, by decide⟩ rfl hl.1 [] rfl (Nat.le_of_ble_eq_true rfl) dX8_bits_15 ⟨Nat.le_of_ble_eq_true rfl, Nat.le_of_ble_eq_true rfl⟩ ?_
    refine zf_i (x' := nI (rt (eig (yv p)))) (hv_ok he) ?_
    refine lv_istore_n (lv' := [(2, .int (nI (rt (eig (yv p))))), (0, .ref q), (1, .int (nI p))]) hx hb dX8_bits_18 rfl hl (by decide) rfl (fun ls hl => ?_)
    refine lv_iload_n hx hb dX8_bits_19 rfl (lv_at hl 0 rfl) ?_
    refine lv_if_ge (tgt := 30) hx hb dX8_bits_20 (by decide) (fun h2 => ?_) (fun h2 => ?_)
    · refine lv_aload_n hx hb dX8_bits_30 rfl (lv_at hl 1 rfl) ?_
      refine va_get (D := D) (ci := 4) (v := .ref a3) (C := RX8) (T := TX8) (N := 9) hx hb hts i_X8 hown hK hP 0 rfl rfl 2 (by decide) (hts _ u736) (fun _ h9 => h9) rfl dX8_bits_31 ?_
      refine lv_iload_n hx hb dX8_bits_34 rfl (lv_at hl 2 rfl) ?_
      refine za_zald hx hb hK hP 3 rfl p (rfl) (by omega) (by decide) dX8_bits_35 ?_
      refine zb_eq (tgt := 45) hx hb dX8_bits_36 (by decide) (fun h3 => ?_) (fun h3 => ?_)
      · refine lv_lconst (v := 0) hx hb dX8_bits_45 (by decide) ?_
        refine zf_l (x' := sgB (isB (yv p))) (by rw [h3]; rfl) ?_
        refine lv_lstore_n (lv' := [(3, .long (sgB (isB (yv p)))), (2, .int (nI (rt (eig (yv p))))), (0, .ref q), (1, .int (nI p))]) hx hb dX8_bits_46 rfl hl (by decide) rfl (fun ls hl => ?_)
        refine lv_iload_n hx hb dX8_bits_47 rfl (lv_at hl 1 rfl) ?_
        refine lv_if_ne (tgt := 53) hx hb dX8_bits_48 (by decide) (fun h4 => ?_) (fun h4 => ?_)
        · have h0r : 0 < rt (eig (yv p)) := Nat.pos_of_ne_zero fun q => h4 (by rw [q]; rfl)
          have hlg := log_le hr16 h0r
          refine lv_iconst (v := 0) hx hb dX8_bits_53 (by decide) ?_
          refine zf_i (x' := nI 0) (rfl) ?_
          refine lv_istore (lv' := [(5, .int (nI 0)), (3, .long (sgB (isB (yv p)))), (2, .int (nI (rt (eig (yv p))))), (0, .ref q), (1, .int (nI p))]) hx hb dX8_bits_54 hl (by decide) rfl (fun ls hl => ?_)
          have lp : ∀ (n : Nat) (k : Nat), k + n = (rt (eig (yv p))).log2 → ∀ (H : Heap) (locs : List Loc), va_P D zcl [(q, .inr (4, [.ref a1, .ref a2, .ref a3, .ref a4, .ref a5, .int (nI n0), .int nc, .int (bI ne), .int 0])), (a1, .inl (T 0, 8, .inl (fun k => nI (yv k / 4)))), (a2, .inl (T 2, 8, .inl (fun k => bI (isE (yv k))))), (a3, .inl (T 2, 8, .inl (fun k => bI (isB (yv k))))), (a4, .inl (T 0, 60, .inl (fun k => nI (tw k / 4)))), (a5, .inl (T 2, 60, .inl (fun k => bI (isE (tw k)))))] H → va_D A [(q, .inr (4, [.ref a1, .ref a2, .ref a3, .ref a4, .ref a5, .int (nI n0), .int nc, .int (bI ne), .int 0])), (a1, .inl (T 0, 8, .inl (fun k => nI (yv k / 4)))), (a2, .inl (T 2, 8, .inl (fun k => bI (isE (yv k))))), (a3, .inl (T 2, 8, .inl (fun k => bI (isB (yv k))))), (a4, .inl (T 0, 60, .inl (fun k => nI (tw k / 4)))), (a5, .inl (T 2, 60, .inl (fun k => bI (isE (tw k)))))] → va_S A s.heap H locs → ∀ ls : Array Slot, lv_has ls 8 [(0, .ref q), (1, .int (nI p)), (2, .int (nI (rt (eig (yv p))))), (3, .long (sgB (isB (yv p)))), (5, .int (nI k))] → W zp l ze (zR 2 0 0) s zm args below zmeth zc H locs 0 0 (MQ below (zQh D A (some (.long (btL (isB (yv p)) (rt (eig (yv p)))))) (fun _ : Unit => [(q, .inr (4, [.ref a1, .ref a2, .ref a3, .ref a4, .ref a5, .int (nI n0), .int nc, .int (bI ne), .int 0])), (a1, .inl (T 0, 8, .inl (fun k => nI (yv k / 4)))), (a2, .inl (T 2, 8, .inl (fun k => bI (isE (yv k))))), (a3, .inl (T 2, 8, .inl (fun k => bI (isB (yv k))))), (a4, .inl (T 0, 60, .inl (fun k => nI (tw k / 4)))), (a5, .inl (T 2, 60, .inl (fun k => bI (isE (tw k)))))])) args s 0 0 A) (F0 zm 56 ls []) := by
            intro n
            induction n with
            | zero =>
              intro k hk H locs hP hD hS ls hl
              have hk8 : k = (rt (eig (yv p))).log2 := by omega
              have hk9 := log_lo h0r
              rw [← hk8] at hk9
              refine lv_iload_n hx hb dX8_bits_56 rfl (lv_at hl 2 rfl) ?_
              refine lv_iload hx hb dX8_bits_57 (lv_at hl 4 rfl) ?_
              refine lv_ishr hx hb dX8_bits_59 ?_
              refine zf_i (x' := nI (rt (eig (yv p)) / 2 ^ k)) (sh_r hr16 (by omega)) ?_
              refine lv_iconst (v := 1) hx hb dX8_bits_60 (by decide) ?_
              refine lv_icmp_le (tgt := 70) hx hb dX8_bits_61 (by decide) (fun h5 => ?_) (fun h5 => ?_)
              · refine lv_iload_n hx hb dX8_bits_70 rfl (lv_at hl 2 rfl) ?_
                refine lv_i2l hx hb dX8_bits_71 rfl ?_
                refine zf_l (x' := lN (rt (eig (yv p)))) (nI_l (by omega)) ?_
                refine lv_bipush (v := 52) hx hb dX8_bits_72 (by decide) ?_
                refine lv_iload hx hb dX8_bits_74 (lv_at hl 4 rfl) ?_
                refine lv_isub hx hb dX8_bits_76 ?_
                refine zf_i (x' := nI (52 - k)) (pk_sub (a := 52) (by omega)) ?_
                refine lv_lshl hx hb dX8_bits_77 rfl ?_
                refine lv_ldc2 hx hb hown (hts _ u838) dX8_bits_78 ?_
                refine lv_land hx hb dX8_bits_81 ?_
                refine lv_lstore (lv' := [(6, .long ((zlshl (lN (rt (eig (yv p)))) (nI (52 - k))) &&& 4503599627370495)), (0, .ref q), (1, .int (nI p)), (2, .int (nI (rt (eig (yv p))))), (3, .long (sgB (isB (yv p)))), (5, .int (nI k))]) hx hb dX8_bits_82 hl (by decide) rfl (fun ls hl => ?_)
                refine lv_lload_n hx hb dX8_bits_84 rfl (lv_at hl 4 rfl) ?_
                refine lv_sipush (v := 1023) hx hb dX8_bits_85 (by decide) ?_
                refine lv_iload hx hb dX8_bits_88 (lv_at hl 5 rfl) ?_
                refine lv_iadd hx hb dX8_bits_90 ?_
                refine zf_i (x' := nI (1023 + k)) (nI_add 1023 k) ?_
                refine lv_iconst (v := 1) hx hb dX8_bits_91 (by decide) ?_
                refine lv_isub hx hb dX8_bits_92 ?_
                refine zf_i (x' := nI (1023 + k - 1)) (pk_sub (b := 1) (by omega)) ?_
                refine lv_i2l hx hb dX8_bits_93 rfl ?_
                refine zf_l (x' := lN (1023 + k - 1)) (nI_l (by omega)) ?_
                refine lv_bipush (v := 52) hx hb dX8_bits_94 (by decide) ?_
                refine lv_lshl hx hb dX8_bits_96 rfl ?_
                refine lv_lor hx hb dX8_bits_97 ?_
                refine lv_lload hx hb dX8_bits_98 (lv_at hl 0 rfl) ?_
                refine lv_lor hx hb dX8_bits_100 ?_
                exact zh_lret () hx hb hr hlocks dX8_bits_101 hP hD hS (by rw [btL, if_neg (Nat.pos_iff_ne_zero.mp h0r), btR, ← hk8]; rfl) (rfl)
              · exact absurd (show nI (rt (eig (yv p)) / 2 ^ k) ≤ nI 1 from nI_le hk9 (by decide)) h5
            | succ n ih =>
              intro k hk H locs hP hD hS ls hl
              have hk9 := log_hi h0r (show k < (rt (eig (yv p))).log2 by omega)
              have hk10 : rt (eig (yv p)) / 2 ^ k ≤ rt (eig (yv p)) := Nat.div_le_self _ _
              refine lv_iload_n hx hb dX8_bits_56 rfl (lv_at hl 2 rfl) ?_
              refine lv_iload hx hb dX8_bits_57 (lv_at hl 4 rfl) ?_
              refine lv_ishr hx hb dX8_bits_59 ?_
              refine zf_i (x' := nI (rt (eig (yv p)) / 2 ^ k)) (sh_r hr16 (by omega)) ?_
              refine lv_iconst (v := 1) hx hb dX8_bits_60 (by decide) ?_
              refine lv_icmp_le (tgt := 70) hx hb dX8_bits_61 (by decide) (fun h6 => ?_) (fun h6 => ?_)
              · exact absurd h6 (show ¬ nI (rt (eig (yv p)) / 2 ^ k) ≤ nI 1 from nI_ge hk9 (by omega))
              · refine lv_iinc (v := (nI (k + 1))) (lv' := [(5, .int (nI (k + 1))), (0, .ref q), (1, .int (nI p)), (2, .int (nI (rt (eig (yv p))))), (3, .long (sgB (isB (yv p))))]) hx hb dX8_bits_64 hl (k := 4) rfl (nI_1 k) (by decide) rfl (fun ls hl => ?_)
                refine lv_goto (tgt := 56) hx hb dX8_bits_67 (by decide) ?_
                exact ih (k + 1) (by omega) _ _ hP hD hS ls (lv_sub hl [1, 2, 3, 4, 0] rfl)
          exact lp (rt (eig (yv p))).log2 0 (by omega) _ _ hP hD hS ls (lv_sub hl [3, 4, 2, 1, 0] rfl)
        · refine lv_lload_n hx hb dX8_bits_51 rfl (lv_at hl 0 rfl) ?_
          exact zh_lret () hx hb hr hlocks dX8_bits_52 hP hD hS (by rw [btL, if_pos ((nI_eq (b := 0) (by omega) (by decide)).mp h4)]) (rfl)
      · refine lv_ldc2 hx hb hown (hts _ u837) dX8_bits_39 ?_
        refine lv_goto (tgt := 46) hx hb dX8_bits_42 (by decide) ?_
        refine zf_l (x' := sgB (isB (yv p))) (by rw [h3]; rfl) ?_
        refine lv_lstore_n (lv' := [(3, .long (sgB (isB (yv p)))), (2, .int (nI (rt (eig (yv p))))), (0, .ref q), (1, .int (nI p))]) hx hb dX8_bits_46 rfl hl (by decide) rfl (fun ls hl => ?_)
        refine lv_iload_n hx hb dX8_bits_47 rfl (lv_at hl 1 rfl) ?_
        refine lv_if_ne (tgt := 53) hx hb dX8_bits_48 (by decide) (fun h7 => ?_) (fun h7 => ?_)
        · have h0r : 0 < rt (eig (yv p)) := Nat.pos_of_ne_zero fun q => h7 (by rw [q]; rfl)
          have hlg := log_le hr16 h0r
          refine lv_iconst (v := 0) hx hb dX8_bits_53 (by decide) ?_
          refine zf_i (x' := nI 0) (rfl) ?_
          refine lv_istore (lv' := [(5, .int (nI 0)), (3, .long (sgB (isB (yv p)))), (2, .int (nI (rt (eig (yv p))))), (0, .ref q), (1, .int (nI p))]) hx hb dX8_bits_54 hl (by decide) rfl (fun ls hl => ?_)
          have lp : ∀ (n : Nat) (k : Nat), k + n = (rt (eig (yv p))).log2 → ∀ (H : Heap) (locs : List Loc), va_P D zcl [(q, .inr (4, [.ref a1, .ref a2, .ref a3, .ref a4, .ref a5, .int (nI n0), .int nc, .int (bI ne), .int 0])), (a1, .inl (T 0, 8, .inl (fun k => nI (yv k / 4)))), (a2, .inl (T 2, 8, .inl (fun k => bI (isE (yv k))))), (a3, .inl (T 2, 8, .inl (fun k => bI (isB (yv k))))), (a4, .inl (T 0, 60, .inl (fun k => nI (tw k / 4)))), (a5, .inl (T 2, 60, .inl (fun k => bI (isE (tw k)))))] H → va_D A [(q, .inr (4, [.ref a1, .ref a2, .ref a3, .ref a4, .ref a5, .int (nI n0), .int nc, .int (bI ne), .int 0])), (a1, .inl (T 0, 8, .inl (fun k => nI (yv k / 4)))), (a2, .inl (T 2, 8, .inl (fun k => bI (isE (yv k))))), (a3, .inl (T 2, 8, .inl (fun k => bI (isB (yv k))))), (a4, .inl (T 0, 60, .inl (fun k => nI (tw k / 4)))), (a5, .inl (T 2, 60, .inl (fun k => bI (isE (tw k)))))] → va_S A s.heap H locs → ∀ ls : Array Slot, lv_has ls 8 [(0, .ref q), (1, .int (nI p)), (2, .int (nI (rt (eig (yv p))))), (3, .long (sgB (isB (yv p)))), (5, .int (nI k))] → W zp l ze (zR 2 0 0) s zm args below zmeth zc H locs 0 0 (MQ below (zQh D A (some (.long (btL (isB (yv p)) (rt (eig (yv p)))))) (fun _ : Unit => [(q, .inr (4, [.ref a1, .ref a2, .ref a3, .ref a4, .ref a5, .int (nI n0), .int nc, .int (bI ne), .int 0])), (a1, .inl (T 0, 8, .inl (fun k => nI (yv k / 4)))), (a2, .inl (T 2, 8, .inl (fun k => bI (isE (yv k))))), (a3, .inl (T 2, 8, .inl (fun k => bI (isB (yv k))))), (a4, .inl (T 0, 60, .inl (fun k => nI (tw k / 4)))), (a5, .inl (T 2, 60, .inl (fun k => bI (isE (tw k)))))])) args s 0 0 A) (F0 zm 56 ls []) := by
            intro n
            induction n with
            | zero =>
              intro k hk H locs hP hD hS ls hl
              have hk8 : k = (rt (eig (yv p))).log2 := by omega
              have hk9 := log_lo h0r
              rw [← hk8] at hk9
              refine lv_iload_n hx hb dX8_bits_56 rfl (lv_at hl 2 rfl) ?_
              refine lv_iload hx hb dX8_bits_57 (lv_at hl 4 rfl) ?_
              refine lv_ishr hx hb dX8_bits_59 ?_
              refine zf_i (x' := nI (rt (eig (yv p)) / 2 ^ k)) (sh_r hr16 (by omega)) ?_
              refine lv_iconst (v := 1) hx hb dX8_bits_60 (by decide) ?_
              refine lv_icmp_le (tgt := 70) hx hb dX8_bits_61 (by decide) (fun h8 => ?_) (fun h8 => ?_)
              · refine lv_iload_n hx hb dX8_bits_70 rfl (lv_at hl 2 rfl) ?_
                refine lv_i2l hx hb dX8_bits_71 rfl ?_
                refine zf_l (x' := lN (rt (eig (yv p)))) (nI_l (by omega)) ?_
                refine lv_bipush (v := 52) hx hb dX8_bits_72 (by decide) ?_
                refine lv_iload hx hb dX8_bits_74 (lv_at hl 4 rfl) ?_
                refine lv_isub hx hb dX8_bits_76 ?_
                refine zf_i (x' := nI (52 - k)) (pk_sub (a := 52) (by omega)) ?_
                refine lv_lshl hx hb dX8_bits_77 rfl ?_
                refine lv_ldc2 hx hb hown (hts _ u838) dX8_bits_78 ?_
                refine lv_land hx hb dX8_bits_81 ?_
                refine lv_lstore (lv' := [(6, .long ((zlshl (lN (rt (eig (yv p)))) (nI (52 - k))) &&& 4503599627370495)), (0, .ref q), (1, .int (nI p)), (2, .int (nI (rt (eig (yv p))))), (3, .long (sgB (isB (yv p)))), (5, .int (nI k))]) hx hb dX8_bits_82 hl (by decide) rfl (fun ls hl => ?_)
                refine lv_lload_n hx hb dX8_bits_84 rfl (lv_at hl 4 rfl) ?_
                refine lv_sipush (v := 1023) hx hb dX8_bits_85 (by decide) ?_
                refine lv_iload hx hb dX8_bits_88 (lv_at hl 5 rfl) ?_
                refine lv_iadd hx hb dX8_bits_90 ?_
                refine zf_i (x' := nI (1023 + k)) (nI_add 1023 k) ?_
                refine lv_iconst (v := 1) hx hb dX8_bits_91 (by decide) ?_
                refine lv_isub hx hb dX8_bits_92 ?_
                refine zf_i (x' := nI (1023 + k - 1)) (pk_sub (b := 1) (by omega)) ?_
                refine lv_i2l hx hb dX8_bits_93 rfl ?_
                refine zf_l (x' := lN (1023 + k - 1)) (nI_l (by omega)) ?_
                refine lv_bipush (v := 52) hx hb dX8_bits_94 (by decide) ?_
                refine lv_lshl hx hb dX8_bits_96 rfl ?_
                refine lv_lor hx hb dX8_bits_97 ?_
                refine lv_lload hx hb dX8_bits_98 (lv_at hl 0 rfl) ?_
                refine lv_lor hx hb dX8_bits_100 ?_
                exact zh_lret () hx hb hr hlocks dX8_bits_101 hP hD hS (by rw [btL, if_neg (Nat.pos_iff_ne_zero.mp h0r), btR, ← hk8]; rfl) (rfl)
              · exact absurd (show nI (rt (eig (yv p)) / 2 ^ k) ≤ nI 1 from nI_le hk9 (by decide)) h8
            | succ n ih =>
              intro k hk H locs hP hD hS ls hl
              have hk9 := log_hi h0r (show k < (rt (eig (yv p))).log2 by omega)
              have hk10 : rt (eig (yv p)) / 2 ^ k ≤ rt (eig (yv p)) := Nat.div_le_self _ _
              refine lv_iload_n hx hb dX8_bits_56 rfl (lv_at hl 2 rfl) ?_
              refine lv_iload hx hb dX8_bits_57 (lv_at hl 4 rfl) ?_
              refine lv_ishr hx hb dX8_bits_59 ?_
              refine zf_i (x' := nI (rt (eig (yv p)) / 2 ^ k)) (sh_r hr16 (by omega)) ?_
              refine lv_iconst (v := 1) hx hb dX8_bits_60 (by decide) ?_
              refine lv_icmp_le (tgt := 70) hx hb dX8_bits_61 (by decide) (fun h9 => ?_) (fun h9 => ?_)
              · exact absurd h9 (show ¬ nI (rt (eig (yv p)) / 2 ^ k) ≤ nI 1 from nI_ge hk9 (by omega))
              · refine lv_iinc (v := (nI (k + 1))) (lv' := [(5, .int (nI (k + 1))), (0, .ref q), (1, .int (nI p)), (2, .int (nI (rt (eig (yv p))))), (3, .long (sgB (isB (yv p))))]) hx hb dX8_bits_64 hl (k := 4) rfl (nI_1 k) (by decide) rfl (fun ls hl => ?_)
                refine lv_goto (tgt := 56) hx hb dX8_bits_67 (by decide) ?_
                exact ih (k + 1) (by omega) _ _ hP hD hS ls (lv_sub hl [1, 2, 3, 4, 0] rfl)
          exact lp (rt (eig (yv p))).log2 0 (by omega) _ _ hP hD hS ls (lv_sub hl [3, 4, 2, 1, 0] rfl)
        · refine lv_lload_n hx hb dX8_bits_51 rfl (lv_at hl 0 rfl) ?_
          exact zh_lret () hx hb hr hlocks dX8_bits_52 hP hD hS (by rw [btL, if_pos ((nI_eq (b := 0) (by omega) (by decide)).mp h7)]) (rfl)
    · exact absurd (show nI 0 ≤ nI (rt (eig (yv p))) from nI_le (Nat.zero_le _) (by omega)) h2
  · exact absurd h1 (by decide)
set_option maxRecDepth 20000 in
theorem c_X8_bits_not (l : Launch) (D : va_G) (T : Nat → ClassId) (q a1 a2 a3 a4 a5 : Nat) (yv tw : Nat → Nat) (n0 : Nat) (nc : Int32) (ne : Bool) (th : Int32) (p : Nat) (hp : p < 8) (he : exB (eig (yv p)) = false) (hy : ∀ k, yv k < 262144) : Hm l yX8_bits cX8_bits 8 (some FieldType.long) 2 0 0 D T [.ref q, .int (nI p)] [(q, .inr (4, [.ref a1, .ref a2, .ref a3, .ref a4, .ref a5, .int (nI n0), .int nc, .int (bI ne), .int th])), (a1, .inl (T 0, 8, .inl (fun k => nI (yv k / 4)))), (a2, .inl (T 2, 8, .inl (fun k => bI (isE (yv k))))), (a3, .inl (T 2, 8, .inl (fun k => bI (isB (yv k))))), (a4, .inl (T 0, 60, .inl (fun k => nI (tw k / 4)))), (a5, .inl (T 2, 60, .inl (fun k => bI (isE (tw k)))))] (some (.long 0)) (fun _ : Unit => [(q, .inr (4, [.ref a1, .ref a2, .ref a3, .ref a4, .ref a5, .int (nI n0), .int nc, .int (bI ne), .int 2])), (a1, .inl (T 0, 8, .inl (fun k => nI (yv k / 4)))), (a2, .inl (T 2, 8, .inl (fun k => bI (isE (yv k))))), (a3, .inl (T 2, 8, .inl (fun k => bI (isB (yv k))))), (a4, .inl (T 0, 60, .inl (fun k => nI (tw k / 4)))), (a5, .inl (T 2, 60, .inl (fun k => bI (isE (tw k)))))]) := by
  refine Hm.of (by decide) (Nat.le_of_ble_eq_true rfl) ?_
  intro zp ze s zm args below zmeth zc hx hb hr hml hown hin hts hlocks A hA hP hK hD hS ls hl
  have hl : lv_has ls 8 [(0, .ref q), (1, .int (nI p))] := hl
  refine lv_aload_n hx hb dX8_bits_0 rfl (lv_at hl 0 rfl) ?_
  refine lv_iload_n hx hb dX8_bits_1 rfl (lv_at hl 1 rfl) ?_
  refine zh_v (T := T) hx hb hml hown hts k_X8_69 (c_X8_isPlace_ok l D T q a1 a2 a3 a4 a5 yv tw n0 nc ne th p hp) ⟨by decide, by decide⟩ rfl hl.1 [] rfl (Nat.le_of_ble_eq_true rfl) dX8_bits_2 ⟨Nat.le_of_ble_eq_true rfl, Nat.le_of_ble_eq_true rfl⟩ hK hP hD hS hA (ci := 4) rfl rfl rfl [0, 1, 2, 3, 4, 5] [] (wr := []) rfl rfl (by decide) (by decide) (by decide) [0, 1, 2, 3, 4, 5] (fun _ => [(q, .inr (4, [.ref a1, .ref a2, .ref a3, .ref a4, .ref a5, .int (nI n0), .int nc, .int (bI ne), .int 0])), (a1, .inl (T 0, 8, .inl (fun k => nI (yv k / 4)))), (a2, .inl (T 2, 8, .inl (fun k => bI (isE (yv k))))), (a3, .inl (T 2, 8, .inl (fun k => bI (isB (yv k))))), (a4, .inl (T 0, 60, .inl (fun k => nI (tw k / 4)))), (a5, .inl (T 2, 60, .inl (fun k => bI (isE (tw k)))))]) (by decide) (fun _ => rfl) (fun _ H locs hP hD hS => ?_)
  have hP : va_P D zcl [(q, .inr (4, [.ref a1, .ref a2, .ref a3, .ref a4, .ref a5, .int (nI n0), .int nc, .int (bI ne), .int 0])), (a1, .inl (T 0, 8, .inl (fun k => nI (yv k / 4)))), (a2, .inl (T 2, 8, .inl (fun k => bI (isE (yv k))))), (a3, .inl (T 2, 8, .inl (fun k => bI (isB (yv k))))), (a4, .inl (T 0, 60, .inl (fun k => nI (tw k / 4)))), (a5, .inl (T 2, 60, .inl (fun k => bI (isE (tw k)))))] H := hP
  have hD : va_D A [(q, .inr (4, [.ref a1, .ref a2, .ref a3, .ref a4, .ref a5, .int (nI n0), .int nc, .int (bI ne), .int 0])), (a1, .inl (T 0, 8, .inl (fun k => nI (yv k / 4)))), (a2, .inl (T 2, 8, .inl (fun k => bI (isE (yv k))))), (a3, .inl (T 2, 8, .inl (fun k => bI (isB (yv k))))), (a4, .inl (T 0, 60, .inl (fun k => nI (tw k / 4)))), (a5, .inl (T 2, 60, .inl (fun k => bI (isE (tw k)))))] := hD
  refine zb_ne (tgt := 10) hx hb dX8_bits_5 (by decide) (fun h1 => ?_) (fun h1 => ?_)
  · refine lv_aload_n hx hb dX8_bits_10 rfl (lv_at hl 0 rfl) ?_
    refine lv_iload_n hx hb dX8_bits_11 rfl (lv_at hl 1 rfl) ?_
    refine zh_v (T := T) hx hb hml hown hts k_X8_39 (c_X8_size l D T q a1 a2 a3 a4 a5 yv tw n0 nc ne 0 p hp) ⟨by decide, by decide⟩ rfl hl.1 [] rfl (Nat.le_of_ble_eq_true rfl) dX8_bits_12 ⟨Nat.le_of_ble_eq_true rfl, Nat.le_of_ble_eq_true rfl⟩ hK hP hD hS hA (ci := 4) rfl rfl rfl [0, 1, 2, 3, 4, 5] [] (wr := []) rfl rfl (by decide) (by decide) (by decide) [0, 1, 2, 3, 4, 5] (fun _ => [(q, .inr (4, [.ref a1, .ref a2, .ref a3, .ref a4, .ref a5, .int (nI n0), .int nc, .int (bI ne), .int 0])), (a1, .inl (T 0, 8, .inl (fun k => nI (yv k / 4)))), (a2, .inl (T 2, 8, .inl (fun k => bI (isE (yv k))))), (a3, .inl (T 2, 8, .inl (fun k => bI (isB (yv k))))), (a4, .inl (T 0, 60, .inl (fun k => nI (tw k / 4)))), (a5, .inl (T 2, 60, .inl (fun k => bI (isE (tw k)))))]) (by decide) (fun _ => rfl) (fun _ H locs hP hD hS => ?_)
    have hP : va_P D zcl [(q, .inr (4, [.ref a1, .ref a2, .ref a3, .ref a4, .ref a5, .int (nI n0), .int nc, .int (bI ne), .int 0])), (a1, .inl (T 0, 8, .inl (fun k => nI (yv k / 4)))), (a2, .inl (T 2, 8, .inl (fun k => bI (isE (yv k))))), (a3, .inl (T 2, 8, .inl (fun k => bI (isB (yv k))))), (a4, .inl (T 0, 60, .inl (fun k => nI (tw k / 4)))), (a5, .inl (T 2, 60, .inl (fun k => bI (isE (tw k)))))] H := hP
    have hD : va_D A [(q, .inr (4, [.ref a1, .ref a2, .ref a3, .ref a4, .ref a5, .int (nI n0), .int nc, .int (bI ne), .int 0])), (a1, .inl (T 0, 8, .inl (fun k => nI (yv k / 4)))), (a2, .inl (T 2, 8, .inl (fun k => bI (isE (yv k))))), (a3, .inl (T 2, 8, .inl (fun k => bI (isB (yv k))))), (a4, .inl (T 0, 60, .inl (fun k => nI (tw k / 4)))), (a5, .inl (T 2, 60, .inl (fun k => bI (isE (tw k)))))] := hD
    refine zp_call hx hb hml hown hts k_X8_77 (c_X8_halves l (eig (yv p)) (eig20 (hy p))) ⟨by decide, by decide⟩ rfl hl.1 [] rfl (Nat.le_of_ble_eq_true rfl) dX8_bits_15 ⟨Nat.le_of_ble_eq_true rfl, Nat.le_of_ble_eq_true rfl⟩ ?_
    refine lv_istore_n (lv' := [(2, .int (hvI (eig (yv p)))), (0, .ref q), (1, .int (nI p))]) hx hb dX8_bits_18 rfl hl (by decide) rfl (fun ls hl => ?_)
    refine lv_iload_n hx hb dX8_bits_19 rfl (lv_at hl 0 rfl) ?_
    refine lv_if_ge (tgt := 30) hx hb dX8_bits_20 (by decide) (fun h2 => ?_) (fun h2 => ?_)
    · exact absurd h2 (hv_no he)
    · refine lv_aload_n hx hb dX8_bits_23 rfl (lv_at hl 1 rfl) ?_
      refine lv_iconst (v := 2) hx hb dX8_bits_24 (by decide) ?_
      refine va_put (D := D) (ci := 4) (v := .int 2) (ty := .int) (C := RX8) (T := TX8) (N := 9) hx hb hts i_X8 tyX8 tyX8_ok nmX8 hown hK hP hD hS 0 rfl rfl 8 (by decide) (hts _ u742) (fun _ h9 => h9) rfl (by decide +kernel) rfl rfl (Nat.le_of_ble_eq_true rfl) dX8_bits_25 (fun H locs hP hD hS => ?_)
      have hP : va_P D zcl [(q, .inr (4, [.ref a1, .ref a2, .ref a3, .ref a4, .ref a5, .int (nI n0), .int nc, .int (bI ne), .int 2])), (a1, .inl (T 0, 8, .inl (fun k => nI (yv k / 4)))), (a2, .inl (T 2, 8, .inl (fun k => bI (isE (yv k))))), (a3, .inl (T 2, 8, .inl (fun k => bI (isB (yv k))))), (a4, .inl (T 0, 60, .inl (fun k => nI (tw k / 4)))), (a5, .inl (T 2, 60, .inl (fun k => bI (isE (tw k)))))] H := hP
      have hD : va_D A [(q, .inr (4, [.ref a1, .ref a2, .ref a3, .ref a4, .ref a5, .int (nI n0), .int nc, .int (bI ne), .int 2])), (a1, .inl (T 0, 8, .inl (fun k => nI (yv k / 4)))), (a2, .inl (T 2, 8, .inl (fun k => bI (isE (yv k))))), (a3, .inl (T 2, 8, .inl (fun k => bI (isB (yv k))))), (a4, .inl (T 0, 60, .inl (fun k => nI (tw k / 4)))), (a5, .inl (T 2, 60, .inl (fun k => bI (isE (tw k)))))] := hD
      refine lv_lconst (v := 0) hx hb dX8_bits_28 (by decide) ?_
      exact zh_lret () hx hb hr hlocks dX8_bits_29 hP hD hS (rfl) (rfl)
  · exact absurd h1 (by decide)
set_option maxRecDepth 20000 in
theorem c_X8_bits_no (l : Launch) (D : va_G) (T : Nat → ClassId) (q a1 a2 a3 a4 a5 : Nat) (yv tw : Nat → Nat) (n0 : Nat) (nc : Int32) (ne : Bool) (th : Int32) (x : Int32) (hx0 : m_X8_is x = false) : Hm l yX8_bits cX8_bits 8 (some FieldType.long) 2 0 0 D T [.ref q, .int x] [(q, .inr (4, [.ref a1, .ref a2, .ref a3, .ref a4, .ref a5, .int (nI n0), .int nc, .int (bI ne), .int th])), (a1, .inl (T 0, 8, .inl (fun k => nI (yv k / 4)))), (a2, .inl (T 2, 8, .inl (fun k => bI (isE (yv k))))), (a3, .inl (T 2, 8, .inl (fun k => bI (isB (yv k))))), (a4, .inl (T 0, 60, .inl (fun k => nI (tw k / 4)))), (a5, .inl (T 2, 60, .inl (fun k => bI (isE (tw k)))))] (some (.long 0)) (fun _ : Unit => [(q, .inr (4, [.ref a1, .ref a2, .ref a3, .ref a4, .ref a5, .int (nI n0), .int nc, .int (bI ne), .int 1])), (a1, .inl (T 0, 8, .inl (fun k => nI (yv k / 4)))), (a2, .inl (T 2, 8, .inl (fun k => bI (isE (yv k))))), (a3, .inl (T 2, 8, .inl (fun k => bI (isB (yv k))))), (a4, .inl (T 0, 60, .inl (fun k => nI (tw k / 4)))), (a5, .inl (T 2, 60, .inl (fun k => bI (isE (tw k)))))]) := by
  refine Hm.of (by decide) (Nat.le_of_ble_eq_true rfl) ?_
  intro zp ze s zm args below zmeth zc hx hb hr hml hown hin hts hlocks A hA hP hK hD hS ls hl
  have hl : lv_has ls 8 [(0, .ref q), (1, .int x)] := hl
  refine lv_aload_n hx hb dX8_bits_0 rfl (lv_at hl 0 rfl) ?_
  refine lv_iload_n hx hb dX8_bits_1 rfl (lv_at hl 1 rfl) ?_
  refine zh_v (T := T) hx hb hml hown hts k_X8_69 (c_X8_isPlace_no l D T q a1 a2 a3 a4 a5 yv tw n0 nc ne th x hx0) ⟨by decide, by decide⟩ rfl hl.1 [] rfl (Nat.le_of_ble_eq_true rfl) dX8_bits_2 ⟨Nat.le_of_ble_eq_true rfl, Nat.le_of_ble_eq_true rfl⟩ hK hP hD hS hA (ci := 4) rfl rfl rfl [0, 1, 2, 3, 4, 5] [] (wr := []) rfl rfl (by decide) (by decide) (by decide) [0, 1, 2, 3, 4, 5] (fun _ => [(q, .inr (4, [.ref a1, .ref a2, .ref a3, .ref a4, .ref a5, .int (nI n0), .int nc, .int (bI ne), .int 1])), (a1, .inl (T 0, 8, .inl (fun k => nI (yv k / 4)))), (a2, .inl (T 2, 8, .inl (fun k => bI (isE (yv k))))), (a3, .inl (T 2, 8, .inl (fun k => bI (isB (yv k))))), (a4, .inl (T 0, 60, .inl (fun k => nI (tw k / 4)))), (a5, .inl (T 2, 60, .inl (fun k => bI (isE (tw k)))))]) (by decide) (fun _ => rfl) (fun _ H locs hP hD hS => ?_)
  have hP : va_P D zcl [(q, .inr (4, [.ref a1, .ref a2, .ref a3, .ref a4, .ref a5, .int (nI n0), .int nc, .int (bI ne), .int 1])), (a1, .inl (T 0, 8, .inl (fun k => nI (yv k / 4)))), (a2, .inl (T 2, 8, .inl (fun k => bI (isE (yv k))))), (a3, .inl (T 2, 8, .inl (fun k => bI (isB (yv k))))), (a4, .inl (T 0, 60, .inl (fun k => nI (tw k / 4)))), (a5, .inl (T 2, 60, .inl (fun k => bI (isE (tw k)))))] H := hP
  have hD : va_D A [(q, .inr (4, [.ref a1, .ref a2, .ref a3, .ref a4, .ref a5, .int (nI n0), .int nc, .int (bI ne), .int 1])), (a1, .inl (T 0, 8, .inl (fun k => nI (yv k / 4)))), (a2, .inl (T 2, 8, .inl (fun k => bI (isE (yv k))))), (a3, .inl (T 2, 8, .inl (fun k => bI (isB (yv k))))), (a4, .inl (T 0, 60, .inl (fun k => nI (tw k / 4)))), (a5, .inl (T 2, 60, .inl (fun k => bI (isE (tw k)))))] := hD
  refine zb_ne (tgt := 10) hx hb dX8_bits_5 (by decide) (fun h1 => ?_) (fun h1 => ?_)
  · exact absurd h1 (by decide)
  · refine lv_lconst (v := 0) hx hb dX8_bits_8 (by decide) ?_
    exact zh_lret () hx hb hr hlocks dX8_bits_9 hP hD hS (rfl) (rfl)
