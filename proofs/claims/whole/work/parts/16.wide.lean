/-! Wide: whole numbers below 2^210 in seven limbs of 30 bits. -/
def lb (N i : Nat) : Nat := if i < 7 then N / 2 ^ (30 * i) % 2 ^ 30 else 0
def bf (N : Nat) : Nat → Nat
  | 0 => 0
  | j + 1 => lb N j
def PF (N F j : Nat) : Nat := (F % 2 ^ 30) * (N % 2 ^ (30 * j)) + (F / 2 ^ 30) * (2 ^ 30 * (N % 2 ^ (30 * (j - 1))))
theorem lb_lt (N i : Nat) : lb N i < 2 ^ 30 := by
  unfold lb
  split
  · exact Nat.mod_lt _ (by decide)
  · decide
theorem p30 (j : Nat) : 2 ^ (30 * (j + 1)) = 2 ^ (30 * j) * 2 ^ 30 := by rw [← Nat.pow_add]; congr 1
theorem mod30 (N j : Nat) (hj : j < 7) : N % 2 ^ (30 * (j + 1)) = N % 2 ^ (30 * j) + 2 ^ (30 * j) * lb N j := by
  rw [p30, Nat.mod_mul]
  unfold lb
  rw [if_pos hj]
theorem PF_step (N F j : Nat) (hj : j < 7) : PF N F (j + 1) = PF N F j + 2 ^ (30 * j) * (lb N j * (F % 2 ^ 30) + bf N j * (F / 2 ^ 30)) := by
  unfold PF
  rw [mod30 N j hj, Nat.add_sub_cancel, Nat.mul_add (F % 2 ^ 30), Nat.mul_add (2 ^ (30 * j))]
  have e1 : (F % 2 ^ 30) * (2 ^ (30 * j) * lb N j) = 2 ^ (30 * j) * (lb N j * (F % 2 ^ 30)) := by
    rw [Nat.mul_left_comm, Nat.mul_comm (F % 2 ^ 30)]
  have e2 : (F / 2 ^ 30) * (2 ^ 30 * (N % 2 ^ (30 * j))) = (F / 2 ^ 30) * (2 ^ 30 * (N % 2 ^ (30 * (j - 1)))) + 2 ^ (30 * j) * (bf N j * (F / 2 ^ 30)) := by
    cases j with
    | zero =>
      show (F / 2 ^ 30) * (2 ^ 30 * (N % 1)) = (F / 2 ^ 30) * (2 ^ 30 * (N % 1)) + 1 * (0 * (F / 2 ^ 30))
      omega
    | succ i =>
      have h : N % 2 ^ (30 * (i + 1)) = N % 2 ^ (30 * i) + 2 ^ (30 * i) * lb N i := mod30 N i (by omega)
      rw [Nat.add_sub_cancel, h, Nat.mul_add, Nat.mul_add, p30]
      congr 1
      show _ = 2 ^ (30 * i) * 2 ^ 30 * (lb N i * (F / 2 ^ 30))
      rw [Nat.mul_comm (F / 2 ^ 30), Nat.mul_comm (2 ^ (30 * i)) (2 ^ 30), Nat.mul_assoc, Nat.mul_assoc, Nat.mul_assoc]
  omega
theorem wide_all (N F j : Nat) (hj : j < 7) : lb N j * (F % 2 ^ 30) + bf N j * (F / 2 ^ 30) + PF N F j / 2 ^ (30 * j) = PF N F (j + 1) / 2 ^ (30 * j) := by
  rw [PF_step N F j hj, Nat.add_mul_div_left _ _ (Nat.pow_pos (by decide))]
  omega
theorem PF_0 (N F : Nat) : PF N F 0 / 2 ^ (30 * 0) = 0 := by
  unfold PF
  simp [Nat.mod_one]
theorem wide_carry (N F j : Nat) : PF N F (j + 1) / 2 ^ (30 * j) / 2 ^ 30 = PF N F (j + 1) / 2 ^ (30 * (j + 1)) := by
  rw [Nat.div_div_eq_div_mul, ← p30]
theorem wide_out (N F j : Nat) (hj : j < 7) : PF N F (j + 1) / 2 ^ (30 * j) % 2 ^ 30 = lb (N * F) j := by
  have h1 : N = N % 2 ^ (30 * (j + 1)) + 2 ^ (30 * (j + 1)) * (N / 2 ^ (30 * (j + 1))) := (Nat.mod_add_div _ _).symm
  have h2 : N = N % 2 ^ (30 * j) + 2 ^ (30 * j) * (N / 2 ^ (30 * j)) := (Nat.mod_add_div _ _).symm
  have h3 : F = F % 2 ^ 30 + 2 ^ 30 * (F / 2 ^ 30) := (Nat.mod_add_div _ _).symm
  have e1 : N * F = PF N F (j + 1) + 2 ^ (30 * j) * (2 ^ 30 * ((N / 2 ^ (30 * (j + 1))) * (F % 2 ^ 30) + (N / 2 ^ (30 * j)) * (F / 2 ^ 30))) := by
    have a1 : N * (F % 2 ^ 30) = (F % 2 ^ 30) * (N % 2 ^ (30 * (j + 1))) + 2 ^ (30 * j) * (2 ^ 30 * ((N / 2 ^ (30 * (j + 1))) * (F % 2 ^ 30))) := by
      calc N * (F % 2 ^ 30) = (N % 2 ^ (30 * (j + 1)) + 2 ^ (30 * (j + 1)) * (N / 2 ^ (30 * (j + 1)))) * (F % 2 ^ 30) := by rw [← h1]
        _ = _ := by rw [Nat.add_mul, Nat.mul_comm (N % 2 ^ (30 * (j + 1))), p30, Nat.mul_assoc, Nat.mul_assoc]
    have a2 : N * (2 ^ 30 * (F / 2 ^ 30)) = (F / 2 ^ 30) * (2 ^ 30 * (N % 2 ^ (30 * j))) + 2 ^ (30 * j) * (2 ^ 30 * ((N / 2 ^ (30 * j)) * (F / 2 ^ 30))) := by
      calc N * (2 ^ 30 * (F / 2 ^ 30)) = (N % 2 ^ (30 * j) + 2 ^ (30 * j) * (N / 2 ^ (30 * j))) * (2 ^ 30 * (F / 2 ^ 30)) := by rw [← h2]
        _ = _ := by
          rw [Nat.add_mul]
          congr 1
          · rw [Nat.mul_left_comm, Nat.mul_comm (N % 2 ^ (30 * j)), Nat.mul_left_comm]
          · rw [Nat.mul_assoc, Nat.mul_left_comm (N / 2 ^ (30 * j))]
    calc N * F = N * (F % 2 ^ 30 + 2 ^ 30 * (F / 2 ^ 30)) := by rw [← h3]
      _ = N * (F % 2 ^ 30) + N * (2 ^ 30 * (F / 2 ^ 30)) := Nat.mul_add _ _ _
      _ = _ := by
        rw [a1, a2]
        unfold PF
        rw [Nat.add_sub_cancel, Nat.mul_add (2 ^ 30), Nat.mul_add (2 ^ (30 * j))]
        omega
  unfold lb
  rw [if_pos hj, e1, Nat.add_mul_div_left _ _ (Nat.pow_pos (by decide)), Nat.add_mul_mod_self_left]
theorem PF_le (N F j : Nat) : PF N F j / 2 ^ (30 * j) ≤ F % 2 ^ 30 + F / 2 ^ 30 := by
  have hp : 0 < 2 ^ (30 * j) := Nat.pow_pos (by decide)
  refine Nat.div_le_of_le_mul ?_
  unfold PF
  rw [Nat.mul_add]
  have h1 : N % 2 ^ (30 * j) ≤ 2 ^ (30 * j) := Nat.le_of_lt (Nat.mod_lt _ hp)
  have h2 : 2 ^ 30 * (N % 2 ^ (30 * (j - 1))) ≤ 2 ^ (30 * j) := by
    cases j with
    | zero => show 2 ^ 30 * (N % 1) ≤ 1; omega
    | succ i =>
      rw [Nat.add_sub_cancel, p30, Nat.mul_comm (2 ^ (30 * i))]
      exact Nat.mul_le_mul_left _ (Nat.le_of_lt (Nat.mod_lt _ (Nat.pow_pos (by decide))))
  have h3 := Nat.mul_le_mul_left (F % 2 ^ 30) h1
  have h4 := Nat.mul_le_mul_left (F / 2 ^ 30) h2
  rw [Nat.mul_comm (2 ^ (30 * j)), Nat.mul_comm (2 ^ (30 * j))]
  omega
theorem wide_lt {N F j : Nat} (hF : F < 2 ^ 60) (hj : j < 7) : PF N F (j + 1) / 2 ^ (30 * j) < 2 ^ 62 := by
  rw [← wide_all N F j hj]
  have h1 := PF_le N F j
  have h2 := lb_lt N j
  have h3 : F % 2 ^ 30 < 2 ^ 30 := Nat.mod_lt _ (by decide)
  have h4 : F / 2 ^ 30 < 2 ^ 30 := Nat.div_lt_of_lt_mul (by omega)
  have h5 : bf N j < 2 ^ 30 := by
    cases j with
    | zero => exact (by decide : (0 : Nat) < 2 ^ 30)
    | succ i => exact lb_lt N i
  have a1 : lb N j * (F % 2 ^ 30) ≤ (2 ^ 30 - 1) * (2 ^ 30 - 1) := Nat.mul_le_mul (by omega) (by omega)
  have a2 : bf N j * (F / 2 ^ 30) ≤ (2 ^ 30 - 1) * (2 ^ 30 - 1) := Nat.mul_le_mul (by omega) (by omega)
  omega
theorem wide_up {M N j : Nat} (k : Nat) : (if k = j then lN (lb M j) else lN (if k < j then lb M k else lb N k)) = lN (if k < j + 1 then lb M k else lb N k) := by
  by_cases h : k = j
  · subst h
    rw [if_pos rfl, if_pos (by omega)]
  · rw [if_neg h]
    by_cases h2 : k < j
    · rw [if_pos h2, if_pos (by omega)]
    · rw [if_neg h2, if_neg (by omega)]
theorem wide_0 (M N : Nat) : (fun i => lN (lb N i)) = (fun i => lN (if i < 0 then lb M i else lb N i)) := funext fun i => by rw [if_neg (Nat.not_lt_zero i)]
theorem wide_7 (M N : Nat) : (fun i => lN (if i < 7 then lb M i else lb N i)) = (fun i => lN (lb M i)) := funext fun i => by
  by_cases h : i < 7
  · rw [if_pos h]
  · rw [if_neg h]
    unfold lb
    rw [if_neg h, if_neg h]
theorem zlushr_N (n k : Nat) (hn : n < 2 ^ 64) (hk : k < 64) : zlushr (lN n) (nI k) = lN (n / 2 ^ k) := wb_shr hn hk
theorem mask30 {n : Nat} (hn : n < 2 ^ 64) : lN n &&& 1073741823 = lN (n % 2 ^ 30) := wb_mask (k := 30) hn (by decide)
theorem lb_one (i : Nat) : lb 1 i = if i = 0 then 1 else 0 := by
  unfold lb
  by_cases h : i = 0
  · subst h; decide
  · rw [if_neg h]
    split
    · rw [Nat.div_eq_of_lt (Nat.one_lt_two_pow (by omega))]
    · rfl
set_option maxRecDepth 20000 in
theorem c_X6_multiplyBy (l : Launch) (D : va_G) (T : Nat → ClassId) (b0 f0 N F : Nat) (hF : F < 2 ^ 60) : Hm l yX6_multiplyBy cX6_multiplyBy 16 none 0 0 0 D T [.ref b0, .long (lN F)] [(b0, .inr (2, [.ref f0])), (f0, .inl (T 1, 7, .inr (.inl (fun i => lN (lb N i)))))] none (fun _ : Unit => [(b0, .inr (2, [.ref f0])), (f0, .inl (T 1, 7, .inr (.inl (fun i => lN (lb (N * F) i)))))]) := by
  refine Hm.of (by decide) (Nat.le_of_ble_eq_true rfl) ?_
  intro zp ze s zm args below zmeth zc hx hb hr hml hown hin hts hlocks A hA hP hK hD hS ls hl
  have hl : lv_has ls 16 [(0, .ref b0), (1, .long (lN F))] := hl
  refine lv_lload_n hx hb dX6_multiplyBy_0 rfl (lv_at hl 1 rfl) ?_
  refine lv_ldc2 hx hb hown (hts _ u271) dX6_multiplyBy_1 ?_
  refine lv_land hx hb dX6_multiplyBy_4 ?_
  refine zf_l (x' := lN (F % 2 ^ 30)) (mask30 (by omega)) ?_
  refine lv_lstore_n (lv' := [(3, .long (lN (F % 2 ^ 30))), (0, .ref b0), (1, .long (lN F))]) hx hb dX6_multiplyBy_5 rfl hl (by decide) rfl (fun ls hl => ?_)
  refine lv_lload_n hx hb dX6_multiplyBy_6 rfl (lv_at hl 2 rfl) ?_
  refine lv_bipush (v := 30) hx hb dX6_multiplyBy_7 (by decide) ?_
  refine lv_lushr hx hb dX6_multiplyBy_9 rfl ?_
  refine zf_l (x' := lN (F / 2 ^ 30)) (zlushr_N F 30 (by omega) (by decide)) ?_
  refine lv_lstore (lv' := [(5, .long (lN (F / 2 ^ 30))), (3, .long (lN (F % 2 ^ 30))), (0, .ref b0), (1, .long (lN F))]) hx hb dX6_multiplyBy_10 hl (by decide) rfl (fun ls hl => ?_)
  refine lv_lconst (v := 0) hx hb dX6_multiplyBy_12 (by decide) ?_
  refine zf_l (x' := lN (PF N F 0 / 2 ^ (30 * 0))) (by rw [PF_0]; rfl) ?_
  refine lv_lstore (lv' := [(7, .long (lN (PF N F 0 / 2 ^ (30 * 0)))), (5, .long (lN (F / 2 ^ 30))), (3, .long (lN (F % 2 ^ 30))), (0, .ref b0), (1, .long (lN F))]) hx hb dX6_multiplyBy_13 hl (by decide) rfl (fun ls hl => ?_)
  refine lv_lconst (v := 0) hx hb dX6_multiplyBy_15 (by decide) ?_
  refine zf_l (x' := lN (bf N 0)) (rfl) ?_
  refine lv_lstore (lv' := [(9, .long (lN (bf N 0))), (7, .long (lN (PF N F 0 / 2 ^ (30 * 0)))), (5, .long (lN (F / 2 ^ 30))), (3, .long (lN (F % 2 ^ 30))), (0, .ref b0), (1, .long (lN F))]) hx hb dX6_multiplyBy_16 hl (by decide) rfl (fun ls hl => ?_)
  refine lv_iconst (v := 0) hx hb dX6_multiplyBy_18 (by decide) ?_
  refine lv_istore (lv' := [(11, .int 0), (9, .long (lN (bf N 0))), (7, .long (lN (PF N F 0 / 2 ^ (30 * 0)))), (5, .long (lN (F / 2 ^ 30))), (3, .long (lN (F % 2 ^ 30))), (0, .ref b0), (1, .long (lN F))]) hx hb dX6_multiplyBy_19 hl (by decide) rfl (fun ls hl => ?_)
  rw [show (fun i => lN (lb N i)) = (fun i => lN (if i < 0 then lb (N * F) i else lb N i)) from wide_0 _ _] at hP hD
  have hP : va_P D zcl [(b0, .inr (2, [.ref f0])), (f0, .inl (T 1, 7, .inr (.inl (fun i => lN (if i < 0 then lb (N * F) i else lb N i)))))] s.heap := hP
  have hD : va_D A [(b0, .inr (2, [.ref f0])), (f0, .inl (T 1, 7, .inr (.inl (fun i => lN (if i < 0 then lb (N * F) i else lb N i)))))] := hD
  have lp : ∀ (n : Nat) (j : Nat), j + n = 7 → ∀ (H : Heap) (locs : List Loc), va_P D zcl [(b0, .inr (2, [.ref f0])), (f0, .inl (T 1, 7, .inr (.inl (fun i => lN (if i < j then lb (N * F) i else lb N i)))))] H → va_D A [(b0, .inr (2, [.ref f0])), (f0, .inl (T 1, 7, .inr (.inl (fun i => lN (if i < j then lb (N * F) i else lb N i)))))] → va_S A s.heap H locs → ∀ ls : Array Slot, lv_has ls 16 [(0, .ref b0), (1, .long (lN F)), (3, .long (lN (F % 2 ^ 30))), (5, .long (lN (F / 2 ^ 30))), (7, .long (lN (PF N F j / 2 ^ (30 * j)))), (9, .long (lN (bf N j))), (11, .int (nI j))] → W zp l ze (zR 0 0 0) s zm args below zmeth zc H locs 0 0 (MQ below (zQh D A none (fun _ : Unit => [(b0, .inr (2, [.ref f0])), (f0, .inl (T 1, 7, .inr (.inl (fun i => lN (lb (N * F) i)))))])) args s 0 0 A) (F0 zm 21 ls []) := by
    intro n
    induction n with
    | zero =>
      intro j hj H locs hP hD hS ls hl
      have hj7 : j = 7 := by omega
      refine lv_iload hx hb dX6_multiplyBy_21 (lv_at hl 6 rfl) ?_
      refine lv_bipush (v := 7) hx hb dX6_multiplyBy_23 (by decide) ?_
      refine lv_icmp_ge (tgt := 82) hx hb dX6_multiplyBy_25 (by decide) (fun h1 => ?_) (fun h1 => ?_)
      · exact zh_vret () hx hb hr hlocks dX6_multiplyBy_82 hP hD hS (by rw [hj7, wide_7])
      · exact absurd (show nI 7 ≤ nI j from nI_le (by omega) (by omega)) h1
    | succ n ih =>
      intro j hj H locs hP hD hS ls hl
      have hj7 : j < 7 := by omega
      have hw := wide_lt (N := N) hF hj7
      refine lv_iload hx hb dX6_multiplyBy_21 (lv_at hl 6 rfl) ?_
      refine lv_bipush (v := 7) hx hb dX6_multiplyBy_23 (by decide) ?_
      refine lv_icmp_ge (tgt := 82) hx hb dX6_multiplyBy_25 (by decide) (fun h2 => ?_) (fun h2 => ?_)
      · exact absurd h2 (show ¬ nI 7 ≤ nI j from nI_ge (by omega) (by decide))
      · refine lv_aload_n hx hb dX6_multiplyBy_28 rfl (lv_at hl 0 rfl) ?_
        refine va_get (D := D) (ci := 2) (v := .ref f0) (C := RX6) (T := TX6) (N := 1) hx hb hts i_X6 hown hK hP 0 rfl rfl 0 (by decide) (hts _ u76) (fun _ h9 => h9) rfl dX6_multiplyBy_29 ?_
        refine lv_iload hx hb dX6_multiplyBy_32 (lv_at hl 6 rfl) ?_
        refine za_lald hx hb hK hP 1 rfl j (rfl) (by omega) (by decide) dX6_multiplyBy_34 ?_
        refine zf_l (x' := lN (lb N j)) (by rw [if_neg (Nat.lt_irrefl j)]) ?_
        refine lv_lstore (lv' := [(12, .long (lN (lb N j))), (0, .ref b0), (1, .long (lN F)), (3, .long (lN (F % 2 ^ 30))), (5, .long (lN (F / 2 ^ 30))), (7, .long (lN (PF N F j / 2 ^ (30 * j)))), (9, .long (lN (bf N j))), (11, .int (nI j))]) hx hb dX6_multiplyBy_35 hl (by decide) rfl (fun ls hl => ?_)
        refine lv_lload hx hb dX6_multiplyBy_37 (lv_at hl 0 rfl) ?_
        refine lv_lload_n hx hb dX6_multiplyBy_39 rfl (lv_at hl 3 rfl) ?_
        refine lv_lmul hx hb dX6_multiplyBy_40 ?_
        refine zf_l (x' := lN (lb N j * (F % 2 ^ 30))) (lN_mul _ _) ?_
        refine lv_lload hx hb dX6_multiplyBy_41 (lv_at hl 6 rfl) ?_
        refine lv_lload hx hb dX6_multiplyBy_43 (lv_at hl 4 rfl) ?_
        refine lv_lmul hx hb dX6_multiplyBy_45 ?_
        refine zf_l (x' := lN (bf N j * (F / 2 ^ 30))) (lN_mul _ _) ?_
        refine lv_ladd hx hb dX6_multiplyBy_46 ?_
        refine zf_l (x' := lN (lb N j * (F % 2 ^ 30) + bf N j * (F / 2 ^ 30))) (lN_add _ _) ?_
        refine lv_lload hx hb dX6_multiplyBy_47 (lv_at hl 5 rfl) ?_
        refine lv_ladd hx hb dX6_multiplyBy_49 ?_
        refine zf_l (x' := lN (PF N F (j + 1) / 2 ^ (30 * j))) ((lN_add _ _).trans (by rw [wide_all N F j hj7])) ?_
        refine lv_lstore (lv' := [(14, .long (lN (PF N F (j + 1) / 2 ^ (30 * j)))), (12, .long (lN (lb N j))), (0, .ref b0), (1, .long (lN F)), (3, .long (lN (F % 2 ^ 30))), (5, .long (lN (F / 2 ^ 30))), (7, .long (lN (PF N F j / 2 ^ (30 * j)))), (9, .long (lN (bf N j))), (11, .int (nI j))]) hx hb dX6_multiplyBy_50 hl (by decide) rfl (fun ls hl => ?_)
        refine lv_aload_n hx hb dX6_multiplyBy_52 rfl (lv_at hl 2 rfl) ?_
        refine va_get (D := D) (ci := 2) (v := .ref f0) (C := RX6) (T := TX6) (N := 1) hx hb hts i_X6 hown hK hP 0 rfl rfl 0 (by decide) (hts _ u76) (fun _ h9 => h9) rfl dX6_multiplyBy_53 ?_
        refine lv_iload hx hb dX6_multiplyBy_56 (lv_at hl 8 rfl) ?_
        refine lv_lload hx hb dX6_multiplyBy_58 (lv_at hl 0 rfl) ?_
        refine lv_ldc2 hx hb hown (hts _ u271) dX6_multiplyBy_60 ?_
        refine lv_land hx hb dX6_multiplyBy_63 ?_
        refine zf_l (x' := lN (lb (N * F) j)) ((mask30 (by omega)).trans (by rw [wide_out N F j hj7])) ?_
        refine za_last hx hb hK hP hD hS 1 rfl j (rfl) (by omega) (by decide) (fun i => lN (if i < j + 1 then lb (N * F) i else lb N i)) (wide_up) dX6_multiplyBy_64 (fun H locs hP hD hS => ?_)
        have hP : va_P D zcl [(b0, .inr (2, [.ref f0])), (f0, .inl (T 1, 7, .inr (.inl (fun i => lN (if i < j + 1 then lb (N * F) i else lb N i)))))] H := hP
        have hD : va_D A [(b0, .inr (2, [.ref f0])), (f0, .inl (T 1, 7, .inr (.inl (fun i => lN (if i < j + 1 then lb (N * F) i else lb N i)))))] := hD
        refine lv_lload hx hb dX6_multiplyBy_65 (lv_at hl 0 rfl) ?_
        refine lv_bipush (v := 30) hx hb dX6_multiplyBy_67 (by decide) ?_
        refine lv_lushr hx hb dX6_multiplyBy_69 rfl ?_
        refine zf_l (x' := lN (PF N F (j + 1) / 2 ^ (30 * (j + 1)))) ((zlushr_N _ 30 (by omega) (by decide)).trans (by rw [wide_carry])) ?_
        refine lv_lstore (lv' := [(7, .long (lN (PF N F (j + 1) / 2 ^ (30 * (j + 1))))), (14, .long (lN (PF N F (j + 1) / 2 ^ (30 * j)))), (12, .long (lN (lb N j))), (0, .ref b0), (1, .long (lN F)), (3, .long (lN (F % 2 ^ 30))), (5, .long (lN (F / 2 ^ 30))), (9, .long (lN (bf N j))), (11, .int (nI j))]) hx hb dX6_multiplyBy_70 hl (by decide) rfl (fun ls hl => ?_)
        refine lv_lload hx hb dX6_multiplyBy_72 (lv_at hl 2 rfl) ?_
        refine zf_l (x' := lN (bf N (j + 1))) (rfl) ?_
        refine lv_lstore (lv' := [(9, .long (lN (bf N (j + 1)))), (7, .long (lN (PF N F (j + 1) / 2 ^ (30 * (j + 1))))), (14, .long (lN (PF N F (j + 1) / 2 ^ (30 * j)))), (12, .long (lN (lb N j))), (0, .ref b0), (1, .long (lN F)), (3, .long (lN (F % 2 ^ 30))), (5, .long (lN (F / 2 ^ 30))), (11, .int (nI j))]) hx hb dX6_multiplyBy_74 hl (by decide) rfl (fun ls hl => ?_)
        refine lv_iinc (v := (nI (j + 1))) (lv' := [(11, .int (nI (j + 1))), (9, .long (lN (bf N (j + 1)))), (7, .long (lN (PF N F (j + 1) / 2 ^ (30 * (j + 1))))), (14, .long (lN (PF N F (j + 1) / 2 ^ (30 * j)))), (12, .long (lN (lb N j))), (0, .ref b0), (1, .long (lN F)), (3, .long (lN (F % 2 ^ 30))), (5, .long (lN (F / 2 ^ 30)))]) hx hb dX6_multiplyBy_76 hl (k := 8) rfl (nI_1 j) (by decide) rfl (fun ls hl => ?_)
        refine lv_goto (tgt := 21) hx hb dX6_multiplyBy_79 (by decide) ?_
        exact ih (j + 1) (by omega) _ _ hP hD hS ls (lv_sub hl [5, 6, 7, 8, 2, 1, 0] rfl)
  exact lp 7 0 (by decide) _ _ hP hD hS ls (lv_sub hl [5, 6, 4, 3, 2, 1, 0] rfl)
set_option maxRecDepth 20000 in
theorem c_X6_setProduct (l : Launch) (D : va_G) (T : Nat → ClassId) (b0 f0 N F G : Nat) (hF : F < 2 ^ 60) (hG : G < 2 ^ 60) : Hm l yX6_setProduct cX6_setProduct 6 none 1 0 0 D T [.ref b0, .long (lN F), .long (lN G)] [(b0, .inr (2, [.ref f0])), (f0, .inl (T 1, 7, .inr (.inl (fun i => lN (lb N i)))))] none (fun _ : Unit => [(b0, .inr (2, [.ref f0])), (f0, .inl (T 1, 7, .inr (.inl (fun i => lN (lb (F * G) i)))))]) := by
  refine Hm.of (by decide) (Nat.le_of_ble_eq_true rfl) ?_
  intro zp ze s zm args below zmeth zc hx hb hr hml hown hin hts hlocks A hA hP hK hD hS ls hl
  have hl : lv_has ls 6 [(0, .ref b0), (1, .long (lN F)), (3, .long (lN G))] := hl
  refine lv_iconst (v := 0) hx hb dX6_setProduct_0 (by decide) ?_
  refine lv_istore (lv' := [(5, .int 0), (0, .ref b0), (1, .long (lN F)), (3, .long (lN G))]) hx hb dX6_setProduct_1 hl (by decide) rfl (fun ls hl => ?_)
  rw [show (fun i => lN (lb N i)) = (fun i => lN (if i < 0 then lb 1 i else lb N i)) from wide_0 _ _] at hP hD
  have hP : va_P D zcl [(b0, .inr (2, [.ref f0])), (f0, .inl (T 1, 7, .inr (.inl (fun i => lN (if i < 0 then lb 1 i else lb N i)))))] s.heap := hP
  have hD : va_D A [(b0, .inr (2, [.ref f0])), (f0, .inl (T 1, 7, .inr (.inl (fun i => lN (if i < 0 then lb 1 i else lb N i)))))] := hD
  have lp : ∀ (n : Nat) (j : Nat), j + n = 7 → ∀ (H : Heap) (locs : List Loc), va_P D zcl [(b0, .inr (2, [.ref f0])), (f0, .inl (T 1, 7, .inr (.inl (fun i => lN (if i < j then lb 1 i else lb N i)))))] H → va_D A [(b0, .inr (2, [.ref f0])), (f0, .inl (T 1, 7, .inr (.inl (fun i => lN (if i < j then lb 1 i else lb N i)))))] → va_S A s.heap H locs → ∀ ls : Array Slot, lv_has ls 6 [(0, .ref b0), (1, .long (lN F)), (3, .long (lN G)), (5, .int (nI j))] → W zp l ze (zR 1 0 0) s zm args below zmeth zc H locs 0 0 (MQ below (zQh D A none (fun _ : Unit => [(b0, .inr (2, [.ref f0])), (f0, .inl (T 1, 7, .inr (.inl (fun i => lN (lb (F * G) i)))))])) args s 0 0 A) (F0 zm 3 ls []) := by
    intro n
    induction n with
    | zero =>
      intro j hj H locs hP hD hS ls hl
      have hj7 : j = 7 := by omega
      refine lv_iload hx hb dX6_setProduct_3 (lv_at hl 3 rfl) ?_
      refine lv_bipush (v := 7) hx hb dX6_setProduct_5 (by decide) ?_
      refine lv_icmp_ge (tgt := 33) hx hb dX6_setProduct_7 (by decide) (fun h1 => ?_) (fun h1 => ?_)
      · rw [hj7, wide_7] at hP hD
        have hP : va_P D zcl [(b0, .inr (2, [.ref f0])), (f0, .inl (T 1, 7, .inr (.inl (fun i => lN (lb 1 i)))))] H := hP
        have hD : va_D A [(b0, .inr (2, [.ref f0])), (f0, .inl (T 1, 7, .inr (.inl (fun i => lN (lb 1 i)))))] := hD
        refine lv_aload_n hx hb dX6_setProduct_33 rfl (lv_at hl 0 rfl) ?_
        refine lv_lload_n hx hb dX6_setProduct_34 rfl (lv_at hl 1 rfl) ?_
        refine zh_v (T := T) hx hb hml hown hts k_X6_13 (c_X6_multiplyBy l D T b0 f0 1 F (hF)) ⟨by decide, by decide⟩ rfl hl.1 [] rfl (Nat.le_of_ble_eq_true rfl) dX6_setProduct_35 ⟨Nat.le_of_ble_eq_true rfl, Nat.le_of_ble_eq_true rfl⟩ hK hP hD hS hA (ci := 2) rfl rfl rfl [0, 1] [] (wr := []) rfl rfl (by decide) (by decide) (by decide) [0, 1] (fun _ => [(b0, .inr (2, [.ref f0])), (f0, .inl (T 1, 7, .inr (.inl (fun i => lN (lb (1 * F) i)))))]) (by decide) (fun _ => rfl) (fun _ H locs hP hD hS => ?_)
        have hP : va_P D zcl [(b0, .inr (2, [.ref f0])), (f0, .inl (T 1, 7, .inr (.inl (fun i => lN (lb (1 * F) i)))))] H := hP
        have hD : va_D A [(b0, .inr (2, [.ref f0])), (f0, .inl (T 1, 7, .inr (.inl (fun i => lN (lb (1 * F) i)))))] := hD
        refine lv_aload_n hx hb dX6_setProduct_38 rfl (lv_at hl 0 rfl) ?_
        refine lv_lload_n hx hb dX6_setProduct_39 rfl (lv_at hl 2 rfl) ?_
        refine zh_v (T := T) hx hb hml hown hts k_X6_13 (c_X6_multiplyBy l D T b0 f0 (1 * F) G (hG)) ⟨by decide, by decide⟩ rfl hl.1 [] rfl (Nat.le_of_ble_eq_true rfl) dX6_setProduct_40 ⟨Nat.le_of_ble_eq_true rfl, Nat.le_of_ble_eq_true rfl⟩ hK hP hD hS hA (ci := 2) rfl rfl rfl [0, 1] [] (wr := []) rfl rfl (by decide) (by decide) (by decide) [0, 1] (fun _ => [(b0, .inr (2, [.ref f0])), (f0, .inl (T 1, 7, .inr (.inl (fun i => lN (lb ((1 * F) * G) i)))))]) (by decide) (fun _ => rfl) (fun _ H locs hP hD hS => ?_)
        have hP : va_P D zcl [(b0, .inr (2, [.ref f0])), (f0, .inl (T 1, 7, .inr (.inl (fun i => lN (lb ((1 * F) * G) i)))))] H := hP
        have hD : va_D A [(b0, .inr (2, [.ref f0])), (f0, .inl (T 1, 7, .inr (.inl (fun i => lN (lb ((1 * F) * G) i)))))] := hD
        exact zh_vret () hx hb hr hlocks dX6_setProduct_43 hP hD hS (by rw [Nat.one_mul])
      · exact absurd (show nI 7 ≤ nI j from nI_le (by omega) (by omega)) h1
    | succ n ih =>
      intro j hj H locs hP hD hS ls hl
      have hj7 : j < 7 := by omega
      refine lv_iload hx hb dX6_setProduct_3 (lv_at hl 3 rfl) ?_
      refine lv_bipush (v := 7) hx hb dX6_setProduct_5 (by decide) ?_
      refine lv_icmp_ge (tgt := 33) hx hb dX6_setProduct_7 (by decide) (fun h2 => ?_) (fun h2 => ?_)
      · exact absurd h2 (show ¬ nI 7 ≤ nI j from nI_ge (by omega) (by decide))
      · refine lv_aload_n hx hb dX6_setProduct_10 rfl (lv_at hl 0 rfl) ?_
        refine va_get (D := D) (ci := 2) (v := .ref f0) (C := RX6) (T := TX6) (N := 1) hx hb hts i_X6 hown hK hP 0 rfl rfl 0 (by decide) (hts _ u76) (fun _ h9 => h9) rfl dX6_setProduct_11 ?_
        refine lv_iload hx hb dX6_setProduct_14 (lv_at hl 3 rfl) ?_
        refine lv_iload hx hb dX6_setProduct_16 (lv_at hl 3 rfl) ?_
        refine lv_if_ne (tgt := 25) hx hb dX6_setProduct_18 (by decide) (fun h3 => ?_) (fun h3 => ?_)
        · refine lv_lconst (v := 0) hx hb dX6_setProduct_25 (by decide) ?_
          refine zf_l (x' := lN (lb 1 j)) (by rw [lb_one, if_neg (fun q => h3 (by rw [q]; rfl))]; rfl) ?_
          refine za_last hx hb hK hP hD hS 1 rfl j (rfl) (by omega) (by decide) (fun i => lN (if i < j + 1 then lb 1 i else lb N i)) (wide_up) dX6_setProduct_26 (fun H locs hP hD hS => ?_)
          have hP : va_P D zcl [(b0, .inr (2, [.ref f0])), (f0, .inl (T 1, 7, .inr (.inl (fun i => lN (if i < j + 1 then lb 1 i else lb N i)))))] H := hP
          have hD : va_D A [(b0, .inr (2, [.ref f0])), (f0, .inl (T 1, 7, .inr (.inl (fun i => lN (if i < j + 1 then lb 1 i else lb N i)))))] := hD
          refine lv_iinc (v := (nI (j + 1))) (lv' := [(5, .int (nI (j + 1))), (0, .ref b0), (1, .long (lN F)), (3, .long (lN G))]) hx hb dX6_setProduct_27 hl (k := 3) rfl (nI_1 j) (by decide) rfl (fun ls hl => ?_)
          refine lv_goto (tgt := 3) hx hb dX6_setProduct_30 (by decide) ?_
          exact ih (j + 1) (by omega) _ _ hP hD hS ls (lv_sub hl [1, 2, 3, 0] rfl)
        · refine lv_lconst (v := 1) hx hb dX6_setProduct_21 (by decide) ?_
          refine zf_l (x' := lN (lb 1 j)) (by rw [lb_one, if_pos ((nI_eq (b := 0) (by omega) (by decide)).mp h3)]; rfl) ?_
          refine lv_goto (tgt := 26) hx hb dX6_setProduct_22 (by decide) ?_
          refine za_last hx hb hK hP hD hS 1 rfl j (rfl) (by omega) (by decide) (fun i => lN (if i < j + 1 then lb 1 i else lb N i)) (wide_up) dX6_setProduct_26 (fun H locs hP hD hS => ?_)
          have hP : va_P D zcl [(b0, .inr (2, [.ref f0])), (f0, .inl (T 1, 7, .inr (.inl (fun i => lN (if i < j + 1 then lb 1 i else lb N i)))))] H := hP
          have hD : va_D A [(b0, .inr (2, [.ref f0])), (f0, .inl (T 1, 7, .inr (.inl (fun i => lN (if i < j + 1 then lb 1 i else lb N i)))))] := hD
          refine lv_iinc (v := (nI (j + 1))) (lv' := [(5, .int (nI (j + 1))), (0, .ref b0), (1, .long (lN F)), (3, .long (lN G))]) hx hb dX6_setProduct_27 hl (k := 3) rfl (nI_1 j) (by decide) rfl (fun ls hl => ?_)
          refine lv_goto (tgt := 3) hx hb dX6_setProduct_30 (by decide) ?_
          exact ih (j + 1) (by omega) _ _ hP hD hS ls (lv_sub hl [1, 2, 3, 0] rfl)
  exact lp 7 0 (by decide) _ _ hP hD hS ls (lv_sub hl [1, 2, 3, 0] rfl)
set_option maxRecDepth 20000 in
theorem c_X6_setCube (l : Launch) (D : va_G) (T : Nat → ClassId) (b0 f0 N F G : Nat) (hF : F < 2 ^ 60) (hG : G < 2 ^ 60) : Hm l yX6_setCube cX6_setCube 5 none 2 0 0 D T [.ref b0, .long (lN F), .long (lN G)] [(b0, .inr (2, [.ref f0])), (f0, .inl (T 1, 7, .inr (.inl (fun i => lN (lb N i)))))] none (fun _ : Unit => [(b0, .inr (2, [.ref f0])), (f0, .inl (T 1, 7, .inr (.inl (fun i => lN (lb (F * G * G * G) i)))))]) := by
  refine Hm.of (by decide) (Nat.le_of_ble_eq_true rfl) ?_
  intro zp ze s zm args below zmeth zc hx hb hr hml hown hin hts hlocks A hA hP hK hD hS ls hl
  have hl : lv_has ls 5 [(0, .ref b0), (1, .long (lN F)), (3, .long (lN G))] := hl
  refine lv_aload_n hx hb dX6_setCube_0 rfl (lv_at hl 0 rfl) ?_
  refine lv_lload_n hx hb dX6_setCube_1 rfl (lv_at hl 1 rfl) ?_
  refine lv_lload_n hx hb dX6_setCube_2 rfl (lv_at hl 2 rfl) ?_
  refine zh_v (T := T) hx hb hml hown hts k_X6_17 (c_X6_setProduct l D T b0 f0 N F G (hF) (hG)) ⟨by decide, by decide⟩ rfl hl.1 [] rfl (Nat.le_of_ble_eq_true rfl) dX6_setCube_3 ⟨Nat.le_of_ble_eq_true rfl, Nat.le_of_ble_eq_true rfl⟩ hK hP hD hS hA (ci := 2) rfl rfl rfl [0, 1] [] (wr := []) rfl rfl (by decide) (by decide) (by decide) [0, 1] (fun _ => [(b0, .inr (2, [.ref f0])), (f0, .inl (T 1, 7, .inr (.inl (fun i => lN (lb (F * G) i)))))]) (by decide) (fun _ => rfl) (fun _ H locs hP hD hS => ?_)
  have hP : va_P D zcl [(b0, .inr (2, [.ref f0])), (f0, .inl (T 1, 7, .inr (.inl (fun i => lN (lb (F * G) i)))))] H := hP
  have hD : va_D A [(b0, .inr (2, [.ref f0])), (f0, .inl (T 1, 7, .inr (.inl (fun i => lN (lb (F * G) i)))))] := hD
  refine lv_aload_n hx hb dX6_setCube_6 rfl (lv_at hl 0 rfl) ?_
  refine lv_lload_n hx hb dX6_setCube_7 rfl (lv_at hl 2 rfl) ?_
  refine zh_v (T := T) hx hb hml hown hts k_X6_13 (c_X6_multiplyBy l D T b0 f0 (F * G) G (hG)) ⟨by decide, by decide⟩ rfl hl.1 [] rfl (Nat.le_of_ble_eq_true rfl) dX6_setCube_8 ⟨Nat.le_of_ble_eq_true rfl, Nat.le_of_ble_eq_true rfl⟩ hK hP hD hS hA (ci := 2) rfl rfl rfl [0, 1] [] (wr := []) rfl rfl (by decide) (by decide) (by decide) [0, 1] (fun _ => [(b0, .inr (2, [.ref f0])), (f0, .inl (T 1, 7, .inr (.inl (fun i => lN (lb ((F * G) * G) i)))))]) (by decide) (fun _ => rfl) (fun _ H locs hP hD hS => ?_)
  have hP : va_P D zcl [(b0, .inr (2, [.ref f0])), (f0, .inl (T 1, 7, .inr (.inl (fun i => lN (lb ((F * G) * G) i)))))] H := hP
  have hD : va_D A [(b0, .inr (2, [.ref f0])), (f0, .inl (T 1, 7, .inr (.inl (fun i => lN (lb ((F * G) * G) i)))))] := hD
  refine lv_aload_n hx hb dX6_setCube_11 rfl (lv_at hl 0 rfl) ?_
  refine lv_lload_n hx hb dX6_setCube_12 rfl (lv_at hl 2 rfl) ?_
  refine zh_v (T := T) hx hb hml hown hts k_X6_13 (c_X6_multiplyBy l D T b0 f0 ((F * G) * G) G (hG)) ⟨by decide, by decide⟩ rfl hl.1 [] rfl (Nat.le_of_ble_eq_true rfl) dX6_setCube_13 ⟨Nat.le_of_ble_eq_true rfl, Nat.le_of_ble_eq_true rfl⟩ hK hP hD hS hA (ci := 2) rfl rfl rfl [0, 1] [] (wr := []) rfl rfl (by decide) (by decide) (by decide) [0, 1] (fun _ => [(b0, .inr (2, [.ref f0])), (f0, .inl (T 1, 7, .inr (.inl (fun i => lN (lb (((F * G) * G) * G) i)))))]) (by decide) (fun _ => rfl) (fun _ H locs hP hD hS => ?_)
  have hP : va_P D zcl [(b0, .inr (2, [.ref f0])), (f0, .inl (T 1, 7, .inr (.inl (fun i => lN (lb (((F * G) * G) * G) i)))))] H := hP
  have hD : va_D A [(b0, .inr (2, [.ref f0])), (f0, .inl (T 1, 7, .inr (.inl (fun i => lN (lb (((F * G) * G) * G) i)))))] := hD
  exact zh_vret () hx hb hr hlocks dX6_setCube_16 hP hD hS (rfl)
