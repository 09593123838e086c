/-! The reference: loops. -/
theorem up_4 (f : Nat → Nat) (p v : Nat) (k : Nat) : (if k = p then nI (v / 4) else nI (f k / 4)) = nI (up f p v k / 4) := by
  unfold up
  split <;> rfl
theorem up_5 (f : Nat → Nat) (p v : Nat) (k : Nat) : (if k = p then bI (isE v) else bI (isE (f k))) = bI (isE (up f p v k)) := by
  unfold up
  split <;> rfl
theorem htN_up (f : Nat → Nat) (m v : Nat) : ∀ n, n ≤ m → htN (up f m v) n = htN f n
  | 0, _ => rfl
  | n + 1, h => by
    show htN (up f m v) n + fN (eig (up f m v n)) = htN f n + fN (eig (f n))
    rw [htN_up f m v n (by omega), up, if_neg (by omega)]
theorem mk_self {v : Nat} (h : isB v = false) : mk (v / 4) (isE v) false = v := by
  unfold isB at h
  unfold mk isE
  have h2 : ¬ v / 2 % 2 = 1 := by simpa using h
  by_cases h3 : v % 2 = 1
  · simp [h3]
    omega
  · simp [h3]
    omega
set_option maxRecDepth 20000 in
theorem c_X8_find_ok (l : Launch) (D : va_G) (T : Nat → ClassId) (q a1 a2 a3 a4 a5 : Nat) (yv tw : Nat → Nat) (n0 : Nat) (nc : Int32) (ne : Bool) (th : Int32) (f : Nat) (hf : 0 < f) (hf2 : f ≤ 65536) (b : Bool) (hc : fcN f b ≤ 65535) : Hm l yX8_find cX8_find 9 (some FieldType.int) 0 0 0 D T [.ref q, .int (nI f), .int (bI b)] [(q, .inr (4, [.ref a1, .ref a2, .ref a3, .ref a4, .ref a5, .int (nI n0), .int nc, .int (bI ne), .int th])), (a1, .inl (T 0, 8, .inl (fun k => nI (yv k / 4)))), (a2, .inl (T 2, 8, .inl (fun k => bI (isE (yv k))))), (a3, .inl (T 2, 8, .inl (fun k => bI (isB (yv k))))), (a4, .inl (T 0, 60, .inl (fun k => nI (tw k / 4)))), (a5, .inl (T 2, 60, .inl (fun k => bI (isE (tw k)))))] (some (.int (nI (fcN f b)))) (fun _ : Unit => [(q, .inr (4, [.ref a1, .ref a2, .ref a3, .ref a4, .ref a5, .int (nI n0), .int nc, .int (bI ne), .int 0])), (a1, .inl (T 0, 8, .inl (fun k => nI (yv k / 4)))), (a2, .inl (T 2, 8, .inl (fun k => bI (isE (yv k))))), (a3, .inl (T 2, 8, .inl (fun k => bI (isB (yv k))))), (a4, .inl (T 0, 60, .inl (fun k => nI (tw k / 4)))), (a5, .inl (T 2, 60, .inl (fun k => bI (isE (tw k)))))]) := by
  refine Hm.of (by decide) (Nat.le_of_ble_eq_true rfl) ?_
  intro zp ze s zm args below zmeth zc hx hb hr hml hown hin hts hlocks A hA hP hK hD hS ls hl
  have hl : lv_has ls 9 [(0, .ref q), (1, .int (nI f)), (2, .int (bI b))] := hl
  have hb1 := pt_b b
  have hq1 : f * f ≤ 65536 * 65536 := Nat.mul_le_mul hf2 hf2
  have hq2 : f * f * f ≤ 65536 * 65536 * 65536 := Nat.mul_le_mul hq1 hf2
  have hq3 : fcN f b < 2 ^ 50 := Nat.lt_of_le_of_lt (Nat.div_le_self _ _) (by omega)
  refine lv_aload_n hx hb dX8_find_0 rfl (lv_at hl 0 rfl) ?_
  refine lv_iconst (v := 0) hx hb dX8_find_1 (by decide) ?_
  refine va_put (D := D) (ci := 4) (v := .int 0) (ty := .int) (C := RX8) (T := TX8) (N := 9) hx hb hts i_X8 tyX8 tyX8_ok nmX8 hown hK hP hD hS 0 rfl rfl 8 (by decide) (hts _ u742) (fun _ h9 => h9) rfl (by decide +kernel) rfl rfl (Nat.le_of_ble_eq_true rfl) dX8_find_2 (fun H locs hP hD hS => ?_)
  have hP : va_P D zcl [(q, .inr (4, [.ref a1, .ref a2, .ref a3, .ref a4, .ref a5, .int (nI n0), .int nc, .int (bI ne), .int 0])), (a1, .inl (T 0, 8, .inl (fun k => nI (yv k / 4)))), (a2, .inl (T 2, 8, .inl (fun k => bI (isE (yv k))))), (a3, .inl (T 2, 8, .inl (fun k => bI (isB (yv k))))), (a4, .inl (T 0, 60, .inl (fun k => nI (tw k / 4)))), (a5, .inl (T 2, 60, .inl (fun k => bI (isE (tw k)))))] H := hP
  have hD : va_D A [(q, .inr (4, [.ref a1, .ref a2, .ref a3, .ref a4, .ref a5, .int (nI n0), .int nc, .int (bI ne), .int 0])), (a1, .inl (T 0, 8, .inl (fun k => nI (yv k / 4)))), (a2, .inl (T 2, 8, .inl (fun k => bI (isE (yv k))))), (a3, .inl (T 2, 8, .inl (fun k => bI (isB (yv k))))), (a4, .inl (T 0, 60, .inl (fun k => nI (tw k / 4)))), (a5, .inl (T 2, 60, .inl (fun k => bI (isE (tw k)))))] := hD
  refine lv_iload_n hx hb dX8_find_5 rfl (lv_at hl 1 rfl) ?_
  refine lv_if_gt (tgt := 11) hx hb dX8_find_6 (by decide) (fun h1 => ?_) (fun h1 => ?_)
  · refine lv_iload_n hx hb dX8_find_11 rfl (lv_at hl 1 rfl) ?_
    refine lv_ldc hx hb hown (hts _ u889) dX8_find_12 ?_
    refine lv_icmp_le (tgt := 24) hx hb dX8_find_14 (by decide) (fun h2 => ?_) (fun h2 => ?_)
    · refine lv_iload_n hx hb dX8_find_24 rfl (lv_at hl 1 rfl) ?_
      refine lv_i2l hx hb dX8_find_25 rfl ?_
      refine zf_l (x' := lN f) (nI_l (by omega)) ?_
      refine lv_iload_n hx hb dX8_find_26 rfl (lv_at hl 1 rfl) ?_
      refine lv_i2l hx hb dX8_find_27 rfl ?_
      refine zf_l (x' := lN f) (nI_l (by omega)) ?_
      refine lv_lmul hx hb dX8_find_28 ?_
      refine zf_l (x' := lN (f * f)) (lN_mul _ _) ?_
      refine lv_iload_n hx hb dX8_find_29 rfl (lv_at hl 1 rfl) ?_
      refine lv_i2l hx hb dX8_find_30 rfl ?_
      refine zf_l (x' := lN f) (nI_l (by omega)) ?_
      refine lv_lmul hx hb dX8_find_31 ?_
      refine zf_l (x' := lN (f * f * f)) (lN_mul _ _) ?_
      refine lv_lstore_n (lv' := [(3, .long (lN (f * f * f))), (0, .ref q), (1, .int (nI f)), (2, .int (bI b))]) hx hb dX8_find_32 rfl hl (by decide) rfl (fun ls hl => ?_)
      refine lv_iload_n hx hb dX8_find_33 rfl (lv_at hl 3 rfl) ?_
      refine zb_eq (tgt := 43) hx hb dX8_find_34 (by decide) (fun h3 => ?_) (fun h3 => ?_)
      · refine lv_ldc2 hx hb hown (hts _ u891) dX8_find_43 ?_
        refine zf_l (x' := lN (pt b)) (by rw [h3]; rfl) ?_
        refine lv_lstore (lv' := [(5, .long (lN (pt b))), (3, .long (lN (f * f * f))), (0, .ref q), (1, .int (nI f)), (2, .int (bI b))]) hx hb dX8_find_46 hl (by decide) rfl (fun ls hl => ?_)
        refine lv_lload_n hx hb dX8_find_48 rfl (lv_at hl 1 rfl) ?_
        refine lv_lload hx hb dX8_find_49 (lv_at hl 0 rfl) ?_
        refine lv_ladd hx hb dX8_find_51 ?_
        refine zf_l (x' := lN (f * f * f + pt b)) (lN_add _ _) ?_
        refine lv_lconst (v := 1) hx hb dX8_find_52 (by decide) ?_
        refine lv_lsub hx hb dX8_find_53 ?_
        refine zf_l (x' := lN (f * f * f + pt b - 1)) (lN_sub (b := 1) (by omega)) ?_
        refine lv_lload hx hb dX8_find_54 (lv_at hl 0 rfl) ?_
        refine lv_ldiv hx hb dX8_find_56 (fun q => absurd ((pk_lEQ (b := 0) (by omega) (by decide)).mp q) (by omega)) ?_
        refine zf_l (x' := lN (fcN f b)) (pk_lDiv (by omega) hb1.1 (by omega)) ?_
        refine lv_lstore (lv' := [(7, .long (lN (fcN f b))), (5, .long (lN (pt b))), (3, .long (lN (f * f * f))), (0, .ref q), (1, .int (nI f)), (2, .int (bI b))]) hx hb dX8_find_57 hl (by decide) rfl (fun ls hl => ?_)
        refine lv_aload_n hx hb dX8_find_59 rfl (lv_at hl 3 rfl) ?_
        refine lv_lload hx hb dX8_find_60 (lv_at hl 0 rfl) ?_
        refine lv_ldc2 hx hb hown (hts _ u851) dX8_find_62 ?_
        refine zl_le (tgt := 73) hx hb dX8_find_65 dX8_find_66 (by decide) (fun h4 => ?_) (fun h4 => ?_)
        · refine lv_iconst (v := 0) hx hb dX8_find_73 (by decide) ?_
          refine va_put (D := D) (ci := 4) (v := .int 0) (ty := .int) (C := RX8) (T := TX8) (N := 9) hx hb hts i_X8 tyX8 tyX8_ok nmX8 hown hK hP hD hS 0 rfl rfl 8 (by decide) (hts _ u742) (fun _ h9 => h9) rfl (by decide +kernel) rfl rfl (Nat.le_of_ble_eq_true rfl) dX8_find_74 (fun H locs hP hD hS => ?_)
          have hP : va_P D zcl [(q, .inr (4, [.ref a1, .ref a2, .ref a3, .ref a4, .ref a5, .int (nI n0), .int nc, .int (bI ne), .int 0])), (a1, .inl (T 0, 8, .inl (fun k => nI (yv k / 4)))), (a2, .inl (T 2, 8, .inl (fun k => bI (isE (yv k))))), (a3, .inl (T 2, 8, .inl (fun k => bI (isB (yv k))))), (a4, .inl (T 0, 60, .inl (fun k => nI (tw k / 4)))), (a5, .inl (T 2, 60, .inl (fun k => bI (isE (tw k)))))] H := hP
          have hD : va_D A [(q, .inr (4, [.ref a1, .ref a2, .ref a3, .ref a4, .ref a5, .int (nI n0), .int nc, .int (bI ne), .int 0])), (a1, .inl (T 0, 8, .inl (fun k => nI (yv k / 4)))), (a2, .inl (T 2, 8, .inl (fun k => bI (isE (yv k))))), (a3, .inl (T 2, 8, .inl (fun k => bI (isB (yv k))))), (a4, .inl (T 0, 60, .inl (fun k => nI (tw k / 4)))), (a5, .inl (T 2, 60, .inl (fun k => bI (isE (tw k)))))] := hD
          refine lv_aload_n hx hb dX8_find_77 rfl (lv_at hl 3 rfl) ?_
          refine va_get (D := D) (ci := 4) (v := .int 0) (C := RX8) (T := TX8) (N := 9) hx hb hts i_X8 hown hK hP 0 rfl rfl 8 (by decide) (hts _ u742) (fun _ h9 => h9) rfl dX8_find_78 ?_
          refine lv_if_le (tgt := 88) hx hb dX8_find_81 (by decide) (fun h5 => ?_) (fun h5 => ?_)
          · refine lv_lload hx hb dX8_find_88 (lv_at hl 0 rfl) ?_
            refine lv_l2i hx hb dX8_find_90 rfl ?_
            refine zf_i (x' := nI (fcN f b)) (lN_i (fcN f b)) ?_
            exact zh_iret () hx hb hr hlocks dX8_find_91 hP hD hS (rfl) (rfl)
          · exact absurd h5 (by decide)
        · exact absurd h4 (fun q => absurd ((pk_lLT (a := 65535) (by decide) (by omega)).mp q) (by omega))
      · refine lv_ldc2 hx hb hown (hts _ u890) dX8_find_37 ?_
        refine zf_l (x' := lN (pt b)) (by rw [h3]; rfl) ?_
        refine lv_goto (tgt := 46) hx hb dX8_find_40 (by decide) ?_
        refine lv_lstore (lv' := [(5, .long (lN (pt b))), (3, .long (lN (f * f * f))), (0, .ref q), (1, .int (nI f)), (2, .int (bI b))]) hx hb dX8_find_46 hl (by decide) rfl (fun ls hl => ?_)
        refine lv_lload_n hx hb dX8_find_48 rfl (lv_at hl 1 rfl) ?_
        refine lv_lload hx hb dX8_find_49 (lv_at hl 0 rfl) ?_
        refine lv_ladd hx hb dX8_find_51 ?_
        refine zf_l (x' := lN (f * f * f + pt b)) (lN_add _ _) ?_
        refine lv_lconst (v := 1) hx hb dX8_find_52 (by decide) ?_
        refine lv_lsub hx hb dX8_find_53 ?_
        refine zf_l (x' := lN (f * f * f + pt b - 1)) (lN_sub (b := 1) (by omega)) ?_
        refine lv_lload hx hb dX8_find_54 (lv_at hl 0 rfl) ?_
        refine lv_ldiv hx hb dX8_find_56 (fun q => absurd ((pk_lEQ (b := 0) (by omega) (by decide)).mp q) (by omega)) ?_
        refine zf_l (x' := lN (fcN f b)) (pk_lDiv (by omega) hb1.1 (by omega)) ?_
        refine lv_lstore (lv' := [(7, .long (lN (fcN f b))), (5, .long (lN (pt b))), (3, .long (lN (f * f * f))), (0, .ref q), (1, .int (nI f)), (2, .int (bI b))]) hx hb dX8_find_57 hl (by decide) rfl (fun ls hl => ?_)
        refine lv_aload_n hx hb dX8_find_59 rfl (lv_at hl 3 rfl) ?_
        refine lv_lload hx hb dX8_find_60 (lv_at hl 0 rfl) ?_
        refine lv_ldc2 hx hb hown (hts _ u851) dX8_find_62 ?_
        refine zl_le (tgt := 73) hx hb dX8_find_65 dX8_find_66 (by decide) (fun h6 => ?_) (fun h6 => ?_)
        · refine lv_iconst (v := 0) hx hb dX8_find_73 (by decide) ?_
          refine va_put (D := D) (ci := 4) (v := .int 0) (ty := .int) (C := RX8) (T := TX8) (N := 9) hx hb hts i_X8 tyX8 tyX8_ok nmX8 hown hK hP hD hS 0 rfl rfl 8 (by decide) (hts _ u742) (fun _ h9 => h9) rfl (by decide +kernel) rfl rfl (Nat.le_of_ble_eq_true rfl) dX8_find_74 (fun H locs hP hD hS => ?_)
          have hP : va_P D zcl [(q, .inr (4, [.ref a1, .ref a2, .ref a3, .ref a4, .ref a5, .int (nI n0), .int nc, .int (bI ne), .int 0])), (a1, .inl (T 0, 8, .inl (fun k => nI (yv k / 4)))), (a2, .inl (T 2, 8, .inl (fun k => bI (isE (yv k))))), (a3, .inl (T 2, 8, .inl (fun k => bI (isB (yv k))))), (a4, .inl (T 0, 60, .inl (fun k => nI (tw k / 4)))), (a5, .inl (T 2, 60, .inl (fun k => bI (isE (tw k)))))] H := hP
          have hD : va_D A [(q, .inr (4, [.ref a1, .ref a2, .ref a3, .ref a4, .ref a5, .int (nI n0), .int nc, .int (bI ne), .int 0])), (a1, .inl (T 0, 8, .inl (fun k => nI (yv k / 4)))), (a2, .inl (T 2, 8, .inl (fun k => bI (isE (yv k))))), (a3, .inl (T 2, 8, .inl (fun k => bI (isB (yv k))))), (a4, .inl (T 0, 60, .inl (fun k => nI (tw k / 4)))), (a5, .inl (T 2, 60, .inl (fun k => bI (isE (tw k)))))] := hD
          refine lv_aload_n hx hb dX8_find_77 rfl (lv_at hl 3 rfl) ?_
          refine va_get (D := D) (ci := 4) (v := .int 0) (C := RX8) (T := TX8) (N := 9) hx hb hts i_X8 hown hK hP 0 rfl rfl 8 (by decide) (hts _ u742) (fun _ h9 => h9) rfl dX8_find_78 ?_
          refine lv_if_le (tgt := 88) hx hb dX8_find_81 (by decide) (fun h7 => ?_) (fun h7 => ?_)
          · refine lv_lload hx hb dX8_find_88 (lv_at hl 0 rfl) ?_
            refine lv_l2i hx hb dX8_find_90 rfl ?_
            refine zf_i (x' := nI (fcN f b)) (lN_i (fcN f b)) ?_
            exact zh_iret () hx hb hr hlocks dX8_find_91 hP hD hS (rfl) (rfl)
          · exact absurd h7 (by decide)
        · exact absurd h6 (fun q => absurd ((pk_lLT (a := 65535) (by decide) (by omega)).mp q) (by omega))
    · exact absurd (show nI f ≤ nI 65536 from nI_le hf2 (by decide)) h2
  · exact absurd (show nI 0 < nI f from nI_lt hf (by omega)) h1
set_option maxRecDepth 20000 in
theorem c_X8_find_no (l : Launch) (D : va_G) (T : Nat → ClassId) (q a1 a2 a3 a4 a5 : Nat) (yv tw : Nat → Nat) (n0 : Nat) (nc : Int32) (ne : Bool) (th : Int32) (f : Nat) (hf : 0 < f) (hf2 : f ≤ 65536) (b : Bool) (hc : 65535 < fcN f b) : Hm l yX8_find cX8_find 9 (some FieldType.int) 0 0 0 D T [.ref q, .int (nI f), .int (bI b)] [(q, .inr (4, [.ref a1, .ref a2, .ref a3, .ref a4, .ref a5, .int (nI n0), .int nc, .int (bI ne), .int th])), (a1, .inl (T 0, 8, .inl (fun k => nI (yv k / 4)))), (a2, .inl (T 2, 8, .inl (fun k => bI (isE (yv k))))), (a3, .inl (T 2, 8, .inl (fun k => bI (isB (yv k))))), (a4, .inl (T 0, 60, .inl (fun k => nI (tw k / 4)))), (a5, .inl (T 2, 60, .inl (fun k => bI (isE (tw k)))))] (some (.int 0)) (fun _ : Unit => [(q, .inr (4, [.ref a1, .ref a2, .ref a3, .ref a4, .ref a5, .int (nI n0), .int nc, .int (bI ne), .int 1])), (a1, .inl (T 0, 8, .inl (fun k => nI (yv k / 4)))), (a2, .inl (T 2, 8, .inl (fun k => bI (isE (yv k))))), (a3, .inl (T 2, 8, .inl (fun k => bI (isB (yv k))))), (a4, .inl (T 0, 60, .inl (fun k => nI (tw k / 4)))), (a5, .inl (T 2, 60, .inl (fun k => bI (isE (tw k)))))]) := by
  refine Hm.of (by decide) (Nat.le_of_ble_eq_true rfl) ?_
  intro zp ze s zm args below zmeth zc hx hb hr hml hown hin hts hlocks A hA hP hK hD hS ls hl
  have hl : lv_has ls 9 [(0, .ref q), (1, .int (nI f)), (2, .int (bI b))] := hl
  have hb1 := pt_b b
  have hq1 : f * f ≤ 65536 * 65536 := Nat.mul_le_mul hf2 hf2
  have hq2 : f * f * f ≤ 65536 * 65536 * 65536 := Nat.mul_le_mul hq1 hf2
  have hq3 : fcN f b < 2 ^ 50 := Nat.lt_of_le_of_lt (Nat.div_le_self _ _) (by omega)
  refine lv_aload_n hx hb dX8_find_0 rfl (lv_at hl 0 rfl) ?_
  refine lv_iconst (v := 0) hx hb dX8_find_1 (by decide) ?_
  refine va_put (D := D) (ci := 4) (v := .int 0) (ty := .int) (C := RX8) (T := TX8) (N := 9) hx hb hts i_X8 tyX8 tyX8_ok nmX8 hown hK hP hD hS 0 rfl rfl 8 (by decide) (hts _ u742) (fun _ h9 => h9) rfl (by decide +kernel) rfl rfl (Nat.le_of_ble_eq_true rfl) dX8_find_2 (fun H locs hP hD hS => ?_)
  have hP : va_P D zcl [(q, .inr (4, [.ref a1, .ref a2, .ref a3, .ref a4, .ref a5, .int (nI n0), .int nc, .int (bI ne), .int 0])), (a1, .inl (T 0, 8, .inl (fun k => nI (yv k / 4)))), (a2, .inl (T 2, 8, .inl (fun k => bI (isE (yv k))))), (a3, .inl (T 2, 8, .inl (fun k => bI (isB (yv k))))), (a4, .inl (T 0, 60, .inl (fun k => nI (tw k / 4)))), (a5, .inl (T 2, 60, .inl (fun k => bI (isE (tw k)))))] H := hP
  have hD : va_D A [(q, .inr (4, [.ref a1, .ref a2, .ref a3, .ref a4, .ref a5, .int (nI n0), .int nc, .int (bI ne), .int 0])), (a1, .inl (T 0, 8, .inl (fun k => nI (yv k / 4)))), (a2, .inl (T 2, 8, .inl (fun k => bI (isE (yv k))))), (a3, .inl (T 2, 8, .inl (fun k => bI (isB (yv k))))), (a4, .inl (T 0, 60, .inl (fun k => nI (tw k / 4)))), (a5, .inl (T 2, 60, .inl (fun k => bI (isE (tw k)))))] := hD
  refine lv_iload_n hx hb dX8_find_5 rfl (lv_at hl 1 rfl) ?_
  refine lv_if_gt (tgt := 11) hx hb dX8_find_6 (by decide) (fun h1 => ?_) (fun h1 => ?_)
  · refine lv_iload_n hx hb dX8_find_11 rfl (lv_at hl 1 rfl) ?_
    refine lv_ldc hx hb hown (hts _ u889) dX8_find_12 ?_
    refine lv_icmp_le (tgt := 24) hx hb dX8_find_14 (by decide) (fun h2 => ?_) (fun h2 => ?_)
    · refine lv_iload_n hx hb dX8_find_24 rfl (lv_at hl 1 rfl) ?_
      refine lv_i2l hx hb dX8_find_25 rfl ?_
      refine zf_l (x' := lN f) (nI_l (by omega)) ?_
      refine lv_iload_n hx hb dX8_find_26 rfl (lv_at hl 1 rfl) ?_
      refine lv_i2l hx hb dX8_find_27 rfl ?_
      refine zf_l (x' := lN f) (nI_l (by omega)) ?_
      refine lv_lmul hx hb dX8_find_28 ?_
      refine zf_l (x' := lN (f * f)) (lN_mul _ _) ?_
      refine lv_iload_n hx hb dX8_find_29 rfl (lv_at hl 1 rfl) ?_
      refine lv_i2l hx hb dX8_find_30 rfl ?_
      refine zf_l (x' := lN f) (nI_l (by omega)) ?_
      refine lv_lmul hx hb dX8_find_31 ?_
      refine zf_l (x' := lN (f * f * f)) (lN_mul _ _) ?_
      refine lv_lstore_n (lv' := [(3, .long (lN (f * f * f))), (0, .ref q), (1, .int (nI f)), (2, .int (bI b))]) hx hb dX8_find_32 rfl hl (by decide) rfl (fun ls hl => ?_)
      refine lv_iload_n hx hb dX8_find_33 rfl (lv_at hl 3 rfl) ?_
      refine zb_eq (tgt := 43) hx hb dX8_find_34 (by decide) (fun h3 => ?_) (fun h3 => ?_)
      · refine lv_ldc2 hx hb hown (hts _ u891) dX8_find_43 ?_
        refine zf_l (x' := lN (pt b)) (by rw [h3]; rfl) ?_
        refine lv_lstore (lv' := [(5, .long (lN (pt b))), (3, .long (lN (f * f * f))), (0, .ref q), (1, .int (nI f)), (2, .int (bI b))]) hx hb dX8_find_46 hl (by decide) rfl (fun ls hl => ?_)
        refine lv_lload_n hx hb dX8_find_48 rfl (lv_at hl 1 rfl) ?_
        refine lv_lload hx hb dX8_find_49 (lv_at hl 0 rfl) ?_
        refine lv_ladd hx hb dX8_find_51 ?_
        refine zf_l (x' := lN (f * f * f + pt b)) (lN_add _ _) ?_
        refine lv_lconst (v := 1) hx hb dX8_find_52 (by decide) ?_
        refine lv_lsub hx hb dX8_find_53 ?_
        refine zf_l (x' := lN (f * f * f + pt b - 1)) (lN_sub (b := 1) (by omega)) ?_
        refine lv_lload hx hb dX8_find_54 (lv_at hl 0 rfl) ?_
        refine lv_ldiv hx hb dX8_find_56 (fun q => absurd ((pk_lEQ (b := 0) (by omega) (by decide)).mp q) (by omega)) ?_
        refine zf_l (x' := lN (fcN f b)) (pk_lDiv (by omega) hb1.1 (by omega)) ?_
        refine lv_lstore (lv' := [(7, .long (lN (fcN f b))), (5, .long (lN (pt b))), (3, .long (lN (f * f * f))), (0, .ref q), (1, .int (nI f)), (2, .int (bI b))]) hx hb dX8_find_57 hl (by decide) rfl (fun ls hl => ?_)
        refine lv_aload_n hx hb dX8_find_59 rfl (lv_at hl 3 rfl) ?_
        refine lv_lload hx hb dX8_find_60 (lv_at hl 0 rfl) ?_
        refine lv_ldc2 hx hb hown (hts _ u851) dX8_find_62 ?_
        refine zl_le (tgt := 73) hx hb dX8_find_65 dX8_find_66 (by decide) (fun h4 => ?_) (fun h4 => ?_)
        · exact absurd ((pk_lLT (a := 65535) (by decide) (by omega)).mpr hc) h4
        · refine lv_iconst (v := 1) hx hb dX8_find_69 (by decide) ?_
          refine lv_goto (tgt := 74) hx hb dX8_find_70 (by decide) ?_
          refine va_put (D := D) (ci := 4) (v := .int 1) (ty := .int) (C := RX8) (T := TX8) (N := 9) hx hb hts i_X8 tyX8 tyX8_ok nmX8 hown hK hP hD hS 0 rfl rfl 8 (by decide) (hts _ u742) (fun _ h9 => h9) rfl (by decide +kernel) rfl rfl (Nat.le_of_ble_eq_true rfl) dX8_find_74 (fun H locs hP hD hS => ?_)
          have hP : va_P D zcl [(q, .inr (4, [.ref a1, .ref a2, .ref a3, .ref a4, .ref a5, .int (nI n0), .int nc, .int (bI ne), .int 1])), (a1, .inl (T 0, 8, .inl (fun k => nI (yv k / 4)))), (a2, .inl (T 2, 8, .inl (fun k => bI (isE (yv k))))), (a3, .inl (T 2, 8, .inl (fun k => bI (isB (yv k))))), (a4, .inl (T 0, 60, .inl (fun k => nI (tw k / 4)))), (a5, .inl (T 2, 60, .inl (fun k => bI (isE (tw k)))))] H := hP
          have hD : va_D A [(q, .inr (4, [.ref a1, .ref a2, .ref a3, .ref a4, .ref a5, .int (nI n0), .int nc, .int (bI ne), .int 1])), (a1, .inl (T 0, 8, .inl (fun k => nI (yv k / 4)))), (a2, .inl (T 2, 8, .inl (fun k => bI (isE (yv k))))), (a3, .inl (T 2, 8, .inl (fun k => bI (isB (yv k))))), (a4, .inl (T 0, 60, .inl (fun k => nI (tw k / 4)))), (a5, .inl (T 2, 60, .inl (fun k => bI (isE (tw k)))))] := hD
          refine lv_aload_n hx hb dX8_find_77 rfl (lv_at hl 3 rfl) ?_
          refine va_get (D := D) (ci := 4) (v := .int 1) (C := RX8) (T := TX8) (N := 9) hx hb hts i_X8 hown hK hP 0 rfl rfl 8 (by decide) (hts _ u742) (fun _ h9 => h9) rfl dX8_find_78 ?_
          refine lv_if_le (tgt := 88) hx hb dX8_find_81 (by decide) (fun h5 => ?_) (fun h5 => ?_)
          · exact absurd h5 (by decide)
          · refine lv_iconst (v := 0) hx hb dX8_find_84 (by decide) ?_
            refine lv_goto (tgt := 91) hx hb dX8_find_85 (by decide) ?_
            exact zh_iret () hx hb hr hlocks dX8_find_91 hP hD hS (rfl) (rfl)
      · refine lv_ldc2 hx hb hown (hts _ u890) dX8_find_37 ?_
        refine zf_l (x' := lN (pt b)) (by rw [h3]; rfl) ?_
        refine lv_goto (tgt := 46) hx hb dX8_find_40 (by decide) ?_
        refine lv_lstore (lv' := [(5, .long (lN (pt b))), (3, .long (lN (f * f * f))), (0, .ref q), (1, .int (nI f)), (2, .int (bI b))]) hx hb dX8_find_46 hl (by decide) rfl (fun ls hl => ?_)
        refine lv_lload_n hx hb dX8_find_48 rfl (lv_at hl 1 rfl) ?_
        refine lv_lload hx hb dX8_find_49 (lv_at hl 0 rfl) ?_
        refine lv_ladd hx hb dX8_find_51 ?_
        refine zf_l (x' := lN (f * f * f + pt b)) (lN_add _ _) ?_
        refine lv_lconst (v := 1) hx hb dX8_find_52 (by decide) ?_
        refine lv_lsub hx hb dX8_find_53 ?_
        refine zf_l (x' := lN (f * f * f + pt b - 1)) (lN_sub (b := 1) (by omega)) ?_
        refine lv_lload hx hb dX8_find_54 (lv_at hl 0 rfl) ?_
        refine lv_ldiv hx hb dX8_find_56 (fun q => absurd ((pk_lEQ (b := 0) (by omega) (by decide)).mp q) (by omega)) ?_
        refine zf_l (x' := lN (fcN f b)) (pk_lDiv (by omega) hb1.1 (by omega)) ?_
        refine lv_lstore (lv' := [(7, .long (lN (fcN f b))), (5, .long (lN (pt b))), (3, .long (lN (f * f * f))), (0, .ref q), (1, .int (nI f)), (2, .int (bI b))]) hx hb dX8_find_57 hl (by decide) rfl (fun ls hl => ?_)
        refine lv_aload_n hx hb dX8_find_59 rfl (lv_at hl 3 rfl) ?_
        refine lv_lload hx hb dX8_find_60 (lv_at hl 0 rfl) ?_
        refine lv_ldc2 hx hb hown (hts _ u851) dX8_find_62 ?_
        refine zl_le (tgt := 73) hx hb dX8_find_65 dX8_find_66 (by decide) (fun h6 => ?_) (fun h6 => ?_)
        · exact absurd ((pk_lLT (a := 65535) (by decide) (by omega)).mpr hc) h6
        · refine lv_iconst (v := 1) hx hb dX8_find_69 (by decide) ?_
          refine lv_goto (tgt := 74) hx hb dX8_find_70 (by decide) ?_
          refine va_put (D := D) (ci := 4) (v := .int 1) (ty := .int) (C := RX8) (T := TX8) (N := 9) hx hb hts i_X8 tyX8 tyX8_ok nmX8 hown hK hP hD hS 0 rfl rfl 8 (by decide) (hts _ u742) (fun _ h9 => h9) rfl (by decide +kernel) rfl rfl (Nat.le_of_ble_eq_true rfl) dX8_find_74 (fun H locs hP hD hS => ?_)
          have hP : va_P D zcl [(q, .inr (4, [.ref a1, .ref a2, .ref a3, .ref a4, .ref a5, .int (nI n0), .int nc, .int (bI ne), .int 1])), (a1, .inl (T 0, 8, .inl (fun k => nI (yv k / 4)))), (a2, .inl (T 2, 8, .inl (fun k => bI (isE (yv k))))), (a3, .inl (T 2, 8, .inl (fun k => bI (isB (yv k))))), (a4, .inl (T 0, 60, .inl (fun k => nI (tw k / 4)))), (a5, .inl (T 2, 60, .inl (fun k => bI (isE (tw k)))))] H := hP
          have hD : va_D A [(q, .inr (4, [.ref a1, .ref a2, .ref a3, .ref a4, .ref a5, .int (nI n0), .int nc, .int (bI ne), .int 1])), (a1, .inl (T 0, 8, .inl (fun k => nI (yv k / 4)))), (a2, .inl (T 2, 8, .inl (fun k => bI (isE (yv k))))), (a3, .inl (T 2, 8, .inl (fun k => bI (isB (yv k))))), (a4, .inl (T 0, 60, .inl (fun k => nI (tw k / 4)))), (a5, .inl (T 2, 60, .inl (fun k => bI (isE (tw k)))))] := hD
          refine lv_aload_n hx hb dX8_find_77 rfl (lv_at hl 3 rfl) ?_
          refine va_get (D := D) (ci := 4) (v := .int 1) (C := RX8) (T := TX8) (N := 9) hx hb hts i_X8 hown hK hP 0 rfl rfl 8 (by decide) (hts _ u742) (fun _ h9 => h9) rfl dX8_find_78 ?_
          refine lv_if_le (tgt := 88) hx hb dX8_find_81 (by decide) (fun h7 => ?_) (fun h7 => ?_)
          · exact absurd h7 (by decide)
          · refine lv_iconst (v := 0) hx hb dX8_find_84 (by decide) ?_
            refine lv_goto (tgt := 91) hx hb dX8_find_85 (by decide) ?_
            exact zh_iret () hx hb hr hlocks dX8_find_91 hP hD hS (rfl) (rfl)
    · exact absurd (show nI f ≤ nI 65536 from nI_le hf2 (by decide)) h2
  · exact absurd (show nI 0 < nI f from nI_lt hf (by omega)) h1
set_option maxRecDepth 20000 in
theorem c_X8_find_low (l : Launch) (D : va_G) (T : Nat → ClassId) (q a1 a2 a3 a4 a5 : Nat) (yv tw : Nat → Nat) (n0 : Nat) (nc : Int32) (ne : Bool) (th : Int32) (x : Int32) (hx0 : ¬ 0 < x) (b : Bool) : Hm l yX8_find cX8_find 9 (some FieldType.int) 0 0 0 D T [.ref q, .int x, .int (bI b)] [(q, .inr (4, [.ref a1, .ref a2, .ref a3, .ref a4, .ref a5, .int (nI n0), .int nc, .int (bI ne), .int th])), (a1, .inl (T 0, 8, .inl (fun k => nI (yv k / 4)))), (a2, .inl (T 2, 8, .inl (fun k => bI (isE (yv k))))), (a3, .inl (T 2, 8, .inl (fun k => bI (isB (yv k))))), (a4, .inl (T 0, 60, .inl (fun k => nI (tw k / 4)))), (a5, .inl (T 2, 60, .inl (fun k => bI (isE (tw k)))))] (some (.int 0)) (fun _ : Unit => [(q, .inr (4, [.ref a1, .ref a2, .ref a3, .ref a4, .ref a5, .int (nI n0), .int nc, .int (bI ne), .int 0])), (a1, .inl (T 0, 8, .inl (fun k => nI (yv k / 4)))), (a2, .inl (T 2, 8, .inl (fun k => bI (isE (yv k))))), (a3, .inl (T 2, 8, .inl (fun k => bI (isB (yv k))))), (a4, .inl (T 0, 60, .inl (fun k => nI (tw k / 4)))), (a5, .inl (T 2, 60, .inl (fun k => bI (isE (tw k)))))]) := by
  refine Hm.of (by decide) (Nat.le_of_ble_eq_true rfl) ?_
  intro zp ze s zm args below zmeth zc hx hb hr hml hown hin hts hlocks A hA hP hK hD hS ls hl
  have hl : lv_has ls 9 [(0, .ref q), (1, .int x), (2, .int (bI b))] := hl
  refine lv_aload_n hx hb dX8_find_0 rfl (lv_at hl 0 rfl) ?_
  refine lv_iconst (v := 0) hx hb dX8_find_1 (by decide) ?_
  refine va_put (D := D) (ci := 4) (v := .int 0) (ty := .int) (C := RX8) (T := TX8) (N := 9) hx hb hts i_X8 tyX8 tyX8_ok nmX8 hown hK hP hD hS 0 rfl rfl 8 (by decide) (hts _ u742) (fun _ h9 => h9) rfl (by decide +kernel) rfl rfl (Nat.le_of_ble_eq_true rfl) dX8_find_2 (fun H locs hP hD hS => ?_)
  have hP : va_P D zcl [(q, .inr (4, [.ref a1, .ref a2, .ref a3, .ref a4, .ref a5, .int (nI n0), .int nc, .int (bI ne), .int 0])), (a1, .inl (T 0, 8, .inl (fun k => nI (yv k / 4)))), (a2, .inl (T 2, 8, .inl (fun k => bI (isE (yv k))))), (a3, .inl (T 2, 8, .inl (fun k => bI (isB (yv k))))), (a4, .inl (T 0, 60, .inl (fun k => nI (tw k / 4)))), (a5, .inl (T 2, 60, .inl (fun k => bI (isE (tw k)))))] H := hP
  have hD : va_D A [(q, .inr (4, [.ref a1, .ref a2, .ref a3, .ref a4, .ref a5, .int (nI n0), .int nc, .int (bI ne), .int 0])), (a1, .inl (T 0, 8, .inl (fun k => nI (yv k / 4)))), (a2, .inl (T 2, 8, .inl (fun k => bI (isE (yv k))))), (a3, .inl (T 2, 8, .inl (fun k => bI (isB (yv k))))), (a4, .inl (T 0, 60, .inl (fun k => nI (tw k / 4)))), (a5, .inl (T 2, 60, .inl (fun k => bI (isE (tw k)))))] := hD
  refine lv_iload_n hx hb dX8_find_5 rfl (lv_at hl 1 rfl) ?_
  refine lv_if_gt (tgt := 11) hx hb dX8_find_6 (by decide) (fun h1 => ?_) (fun h1 => ?_)
  · exact absurd h1 hx0
  · refine lv_iconst (v := 0) hx hb dX8_find_9 (by decide) ?_
    exact zh_iret () hx hb hr hlocks dX8_find_10 hP hD hS (rfl) (rfl)
set_option maxRecDepth 20000 in
theorem c_X8_find_high (l : Launch) (D : va_G) (T : Nat → ClassId) (q a1 a2 a3 a4 a5 : Nat) (yv tw : Nat → Nat) (n0 : Nat) (nc : Int32) (ne : Bool) (th : Int32) (x : Int32) (hx0 : 0 < x) (hx1 : ¬ x ≤ 65536) (b : Bool) : Hm l yX8_find cX8_find 9 (some FieldType.int) 0 0 0 D T [.ref q, .int x, .int (bI b)] [(q, .inr (4, [.ref a1, .ref a2, .ref a3, .ref a4, .ref a5, .int (nI n0), .int nc, .int (bI ne), .int th])), (a1, .inl (T 0, 8, .inl (fun k => nI (yv k / 4)))), (a2, .inl (T 2, 8, .inl (fun k => bI (isE (yv k))))), (a3, .inl (T 2, 8, .inl (fun k => bI (isB (yv k))))), (a4, .inl (T 0, 60, .inl (fun k => nI (tw k / 4)))), (a5, .inl (T 2, 60, .inl (fun k => bI (isE (tw k)))))] (some (.int 0)) (fun _ : Unit => [(q, .inr (4, [.ref a1, .ref a2, .ref a3, .ref a4, .ref a5, .int (nI n0), .int nc, .int (bI ne), .int 1])), (a1, .inl (T 0, 8, .inl (fun k => nI (yv k / 4)))), (a2, .inl (T 2, 8, .inl (fun k => bI (isE (yv k))))), (a3, .inl (T 2, 8, .inl (fun k => bI (isB (yv k))))), (a4, .inl (T 0, 60, .inl (fun k => nI (tw k / 4)))), (a5, .inl (T 2, 60, .inl (fun k => bI (isE (tw k)))))]) := by
  refine Hm.of (by decide) (Nat.le_of_ble_eq_true rfl) ?_
  intro zp ze s zm args below zmeth zc hx hb hr hml hown hin hts hlocks A hA hP hK hD hS ls hl
  have hl : lv_has ls 9 [(0, .ref q), (1, .int x), (2, .int (bI b))] := hl
  refine lv_aload_n hx hb dX8_find_0 rfl (lv_at hl 0 rfl) ?_
  refine lv_iconst (v := 0) hx hb dX8_find_1 (by decide) ?_
  refine va_put (D := D) (ci := 4) (v := .int 0) (ty := .int) (C := RX8) (T := TX8) (N := 9) hx hb hts i_X8 tyX8 tyX8_ok nmX8 hown hK hP hD hS 0 rfl rfl 8 (by decide) (hts _ u742) (fun _ h9 => h9) rfl (by decide +kernel) rfl rfl (Nat.le_of_ble_eq_true rfl) dX8_find_2 (fun H locs hP hD hS => ?_)
  have hP : va_P D zcl [(q, .inr (4, [.ref a1, .ref a2, .ref a3, .ref a4, .ref a5, .int (nI n0), .int nc, .int (bI ne), .int 0])), (a1, .inl (T 0, 8, .inl (fun k => nI (yv k / 4)))), (a2, .inl (T 2, 8, .inl (fun k => bI (isE (yv k))))), (a3, .inl (T 2, 8, .inl (fun k => bI (isB (yv k))))), (a4, .inl (T 0, 60, .inl (fun k => nI (tw k / 4)))), (a5, .inl (T 2, 60, .inl (fun k => bI (isE (tw k)))))] H := hP
  have hD : va_D A [(q, .inr (4, [.ref a1, .ref a2, .ref a3, .ref a4, .ref a5, .int (nI n0), .int nc, .int (bI ne), .int 0])), (a1, .inl (T 0, 8, .inl (fun k => nI (yv k / 4)))), (a2, .inl (T 2, 8, .inl (fun k => bI (isE (yv k))))), (a3, .inl (T 2, 8, .inl (fun k => bI (isB (yv k))))), (a4, .inl (T 0, 60, .inl (fun k => nI (tw k / 4)))), (a5, .inl (T 2, 60, .inl (fun k => bI (isE (tw k)))))] := hD
  refine lv_iload_n hx hb dX8_find_5 rfl (lv_at hl 1 rfl) ?_
  refine lv_if_gt (tgt := 11) hx hb dX8_find_6 (by decide) (fun h1 => ?_) (fun h1 => ?_)
  · refine lv_iload_n hx hb dX8_find_11 rfl (lv_at hl 1 rfl) ?_
    refine lv_ldc hx hb hown (hts _ u889) dX8_find_12 ?_
    refine lv_icmp_le (tgt := 24) hx hb dX8_find_14 (by decide) (fun h2 => ?_) (fun h2 => ?_)
    · exact absurd h2 hx1
    · refine lv_aload_n hx hb dX8_find_17 rfl (lv_at hl 0 rfl) ?_
      refine lv_iconst (v := 1) hx hb dX8_find_18 (by decide) ?_
      refine va_put (D := D) (ci := 4) (v := .int 1) (ty := .int) (C := RX8) (T := TX8) (N := 9) hx hb hts i_X8 tyX8 tyX8_ok nmX8 hown hK hP hD hS 0 rfl rfl 8 (by decide) (hts _ u742) (fun _ h9 => h9) rfl (by decide +kernel) rfl rfl (Nat.le_of_ble_eq_true rfl) dX8_find_19 (fun H locs hP hD hS => ?_)
      have hP : va_P D zcl [(q, .inr (4, [.ref a1, .ref a2, .ref a3, .ref a4, .ref a5, .int (nI n0), .int nc, .int (bI ne), .int 1])), (a1, .inl (T 0, 8, .inl (fun k => nI (yv k / 4)))), (a2, .inl (T 2, 8, .inl (fun k => bI (isE (yv k))))), (a3, .inl (T 2, 8, .inl (fun k => bI (isB (yv k))))), (a4, .inl (T 0, 60, .inl (fun k => nI (tw k / 4)))), (a5, .inl (T 2, 60, .inl (fun k => bI (isE (tw k)))))] H := hP
      have hD : va_D A [(q, .inr (4, [.ref a1, .ref a2, .ref a3, .ref a4, .ref a5, .int (nI n0), .int nc, .int (bI ne), .int 1])), (a1, .inl (T 0, 8, .inl (fun k => nI (yv k / 4)))), (a2, .inl (T 2, 8, .inl (fun k => bI (isE (yv k))))), (a3, .inl (T 2, 8, .inl (fun k => bI (isB (yv k))))), (a4, .inl (T 0, 60, .inl (fun k => nI (tw k / 4)))), (a5, .inl (T 2, 60, .inl (fun k => bI (isE (tw k)))))] := hD
      refine lv_iconst (v := 0) hx hb dX8_find_22 (by decide) ?_
      exact zh_iret () hx hb hr hlocks dX8_find_23 hP hD hS (rfl) (rfl)
  · exact absurd hx0 h1
set_option maxRecDepth 20000 in
theorem c_X8_areCounts (l : Launch) (D : va_G) (T : Nat → ClassId) (q a1 a2 a3 a4 a5 : Nat) (yv tw : Nat → Nat) (n0 : Nat) (nc : Int32) (ne : Bool) (th : Int32) (x y : Int32) : Hm l yX8_areCounts cX8_areCounts 4 (some FieldType.boolean) 0 0 0 D T [.ref q, .int x, .int y] [(q, .inr (4, [.ref a1, .ref a2, .ref a3, .ref a4, .ref a5, .int (nI n0), .int nc, .int (bI ne), .int th])), (a1, .inl (T 0, 8, .inl (fun k => nI (yv k / 4)))), (a2, .inl (T 2, 8, .inl (fun k => bI (isE (yv k))))), (a3, .inl (T 2, 8, .inl (fun k => bI (isB (yv k))))), (a4, .inl (T 0, 60, .inl (fun k => nI (tw k / 4)))), (a5, .inl (T 2, 60, .inl (fun k => bI (isE (tw k)))))] (some (.int (bI (arC x y)))) (fun _ : Unit => [(q, .inr (4, [.ref a1, .ref a2, .ref a3, .ref a4, .ref a5, .int (nI n0), .int nc, .int (bI ne), .int (if arC x y = true then 0 else 1)])), (a1, .inl (T 0, 8, .inl (fun k => nI (yv k / 4)))), (a2, .inl (T 2, 8, .inl (fun k => bI (isE (yv k))))), (a3, .inl (T 2, 8, .inl (fun k => bI (isB (yv k))))), (a4, .inl (T 0, 60, .inl (fun k => nI (tw k / 4)))), (a5, .inl (T 2, 60, .inl (fun k => bI (isE (tw k)))))]) := by
  refine Hm.of (by decide) (Nat.le_of_ble_eq_true rfl) ?_
  intro zp ze s zm args below zmeth zc hx hb hr hml hown hin hts hlocks A hA hP hK hD hS ls hl
  have hl : lv_has ls 4 [(0, .ref q), (1, .int x), (2, .int y)] := hl
  refine lv_iload_n hx hb dX8_areCounts_0 rfl (lv_at hl 2 rfl) ?_
  refine lv_if_lt (tgt := 37) hx hb dX8_areCounts_1 (by decide) (fun h1 => ?_) (fun h1 => ?_)
  · refine lv_iconst (v := 0) hx hb dX8_areCounts_37 (by decide) ?_
    refine lv_istore_n (lv' := [(3, .int 0), (0, .ref q), (1, .int x), (2, .int y)]) hx hb dX8_areCounts_38 rfl hl (by decide) rfl (fun ls hl => ?_)
    refine lv_aload_n hx hb dX8_areCounts_39 rfl (lv_at hl 1 rfl) ?_
    refine lv_iload_n hx hb dX8_areCounts_40 rfl (lv_at hl 0 rfl) ?_
    refine lv_if_eq (tgt := 48) hx hb dX8_areCounts_41 (by decide) (fun h2 => ?_) (fun h2 => ?_)
    · refine lv_iconst (v := 1) hx hb dX8_areCounts_48 (by decide) ?_
      refine va_put (D := D) (ci := 4) (v := .int 1) (ty := .int) (C := RX8) (T := TX8) (N := 9) hx hb hts i_X8 tyX8 tyX8_ok nmX8 hown hK hP hD hS 0 rfl rfl 8 (by decide) (hts _ u742) (fun _ h9 => h9) rfl (by decide +kernel) rfl rfl (Nat.le_of_ble_eq_true rfl) dX8_areCounts_49 (fun H locs hP hD hS => ?_)
      have hP : va_P D zcl [(q, .inr (4, [.ref a1, .ref a2, .ref a3, .ref a4, .ref a5, .int (nI n0), .int nc, .int (bI ne), .int 1])), (a1, .inl (T 0, 8, .inl (fun k => nI (yv k / 4)))), (a2, .inl (T 2, 8, .inl (fun k => bI (isE (yv k))))), (a3, .inl (T 2, 8, .inl (fun k => bI (isB (yv k))))), (a4, .inl (T 0, 60, .inl (fun k => nI (tw k / 4)))), (a5, .inl (T 2, 60, .inl (fun k => bI (isE (tw k)))))] H := hP
      have hD : va_D A [(q, .inr (4, [.ref a1, .ref a2, .ref a3, .ref a4, .ref a5, .int (nI n0), .int nc, .int (bI ne), .int 1])), (a1, .inl (T 0, 8, .inl (fun k => nI (yv k / 4)))), (a2, .inl (T 2, 8, .inl (fun k => bI (isE (yv k))))), (a3, .inl (T 2, 8, .inl (fun k => bI (isB (yv k))))), (a4, .inl (T 0, 60, .inl (fun k => nI (tw k / 4)))), (a5, .inl (T 2, 60, .inl (fun k => bI (isE (tw k)))))] := hD
      refine lv_iload_n hx hb dX8_areCounts_52 rfl (lv_at hl 0 rfl) ?_
      exact zh_zret () hx hb hr hlocks dX8_areCounts_53 hP hD hS (bI_f (zif_pos h1 rfl).symm) (by rw [← (show false = arC x y from (zif_pos h1 rfl))]; rfl)
    · exact absurd h2 (by decide)
  · refine lv_iload_n hx hb dX8_areCounts_4 rfl (lv_at hl 2 rfl) ?_
    refine lv_sipush (v := 256) hx hb dX8_areCounts_5 (by decide) ?_
    refine lv_icmp_gt (tgt := 37) hx hb dX8_areCounts_8 (by decide) (fun h3 => ?_) (fun h3 => ?_)
    · refine lv_iconst (v := 0) hx hb dX8_areCounts_37 (by decide) ?_
      refine lv_istore_n (lv' := [(3, .int 0), (0, .ref q), (1, .int x), (2, .int y)]) hx hb dX8_areCounts_38 rfl hl (by decide) rfl (fun ls hl => ?_)
      refine lv_aload_n hx hb dX8_areCounts_39 rfl (lv_at hl 1 rfl) ?_
      refine lv_iload_n hx hb dX8_areCounts_40 rfl (lv_at hl 0 rfl) ?_
      refine lv_if_eq (tgt := 48) hx hb dX8_areCounts_41 (by decide) (fun h4 => ?_) (fun h4 => ?_)
      · refine lv_iconst (v := 1) hx hb dX8_areCounts_48 (by decide) ?_
        refine va_put (D := D) (ci := 4) (v := .int 1) (ty := .int) (C := RX8) (T := TX8) (N := 9) hx hb hts i_X8 tyX8 tyX8_ok nmX8 hown hK hP hD hS 0 rfl rfl 8 (by decide) (hts _ u742) (fun _ h9 => h9) rfl (by decide +kernel) rfl rfl (Nat.le_of_ble_eq_true rfl) dX8_areCounts_49 (fun H locs hP hD hS => ?_)
        have hP : va_P D zcl [(q, .inr (4, [.ref a1, .ref a2, .ref a3, .ref a4, .ref a5, .int (nI n0), .int nc, .int (bI ne), .int 1])), (a1, .inl (T 0, 8, .inl (fun k => nI (yv k / 4)))), (a2, .inl (T 2, 8, .inl (fun k => bI (isE (yv k))))), (a3, .inl (T 2, 8, .inl (fun k => bI (isB (yv k))))), (a4, .inl (T 0, 60, .inl (fun k => nI (tw k / 4)))), (a5, .inl (T 2, 60, .inl (fun k => bI (isE (tw k)))))] H := hP
        have hD : va_D A [(q, .inr (4, [.ref a1, .ref a2, .ref a3, .ref a4, .ref a5, .int (nI n0), .int nc, .int (bI ne), .int 1])), (a1, .inl (T 0, 8, .inl (fun k => nI (yv k / 4)))), (a2, .inl (T 2, 8, .inl (fun k => bI (isE (yv k))))), (a3, .inl (T 2, 8, .inl (fun k => bI (isB (yv k))))), (a4, .inl (T 0, 60, .inl (fun k => nI (tw k / 4)))), (a5, .inl (T 2, 60, .inl (fun k => bI (isE (tw k)))))] := hD
        refine lv_iload_n hx hb dX8_areCounts_52 rfl (lv_at hl 0 rfl) ?_
        exact zh_zret () hx hb hr hlocks dX8_areCounts_53 hP hD hS (bI_f (zif_neg h1 (zif_pos h3 rfl)).symm) (by rw [← (show false = arC x y from (zif_neg h1 (zif_pos h3 rfl)))]; rfl)
      · exact absurd h4 (by decide)
    · refine lv_iload_n hx hb dX8_areCounts_11 rfl (lv_at hl 2 rfl) ?_
      refine lv_if_eq (tgt := 33) hx hb dX8_areCounts_12 (by decide) (fun h5 => ?_) (fun h5 => ?_)
      · refine lv_iconst (v := 1) hx hb dX8_areCounts_33 (by decide) ?_
        refine lv_goto (tgt := 38) hx hb dX8_areCounts_34 (by decide) ?_
        refine lv_istore_n (lv' := [(3, .int 1), (0, .ref q), (1, .int x), (2, .int y)]) hx hb dX8_areCounts_38 rfl hl (by decide) rfl (fun ls hl => ?_)
        refine lv_aload_n hx hb dX8_areCounts_39 rfl (lv_at hl 1 rfl) ?_
        refine lv_iload_n hx hb dX8_areCounts_40 rfl (lv_at hl 0 rfl) ?_
        refine lv_if_eq (tgt := 48) hx hb dX8_areCounts_41 (by decide) (fun h6 => ?_) (fun h6 => ?_)
        · exact absurd h6 (by decide)
        · refine lv_iconst (v := 0) hx hb dX8_areCounts_44 (by decide) ?_
          refine lv_goto (tgt := 49) hx hb dX8_areCounts_45 (by decide) ?_
          refine va_put (D := D) (ci := 4) (v := .int 0) (ty := .int) (C := RX8) (T := TX8) (N := 9) hx hb hts i_X8 tyX8 tyX8_ok nmX8 hown hK hP hD hS 0 rfl rfl 8 (by decide) (hts _ u742) (fun _ h9 => h9) rfl (by decide +kernel) rfl rfl (Nat.le_of_ble_eq_true rfl) dX8_areCounts_49 (fun H locs hP hD hS => ?_)
          have hP : va_P D zcl [(q, .inr (4, [.ref a1, .ref a2, .ref a3, .ref a4, .ref a5, .int (nI n0), .int nc, .int (bI ne), .int 0])), (a1, .inl (T 0, 8, .inl (fun k => nI (yv k / 4)))), (a2, .inl (T 2, 8, .inl (fun k => bI (isE (yv k))))), (a3, .inl (T 2, 8, .inl (fun k => bI (isB (yv k))))), (a4, .inl (T 0, 60, .inl (fun k => nI (tw k / 4)))), (a5, .inl (T 2, 60, .inl (fun k => bI (isE (tw k)))))] H := hP
          have hD : va_D A [(q, .inr (4, [.ref a1, .ref a2, .ref a3, .ref a4, .ref a5, .int (nI n0), .int nc, .int (bI ne), .int 0])), (a1, .inl (T 0, 8, .inl (fun k => nI (yv k / 4)))), (a2, .inl (T 2, 8, .inl (fun k => bI (isE (yv k))))), (a3, .inl (T 2, 8, .inl (fun k => bI (isB (yv k))))), (a4, .inl (T 0, 60, .inl (fun k => nI (tw k / 4)))), (a5, .inl (T 2, 60, .inl (fun k => bI (isE (tw k)))))] := hD
          refine lv_iload_n hx hb dX8_areCounts_52 rfl (lv_at hl 0 rfl) ?_
          exact zh_zret () hx hb hr hlocks dX8_areCounts_53 hP hD hS (bI_t (zif_neg h1 (zif_neg h3 (zif_pos h5 rfl))).symm) (by rw [← (show true = arC x y from (zif_neg h1 (zif_neg h3 (zif_pos h5 rfl))))]; rfl)
      · refine lv_iload_n hx hb dX8_areCounts_15 rfl (lv_at hl 1 rfl) ?_
        refine lv_if_lt (tgt := 37) hx hb dX8_areCounts_16 (by decide) (fun h7 => ?_) (fun h7 => ?_)
        · refine lv_iconst (v := 0) hx hb dX8_areCounts_37 (by decide) ?_
          refine lv_istore_n (lv' := [(3, .int 0), (0, .ref q), (1, .int x), (2, .int y)]) hx hb dX8_areCounts_38 rfl hl (by decide) rfl (fun ls hl => ?_)
          refine lv_aload_n hx hb dX8_areCounts_39 rfl (lv_at hl 1 rfl) ?_
          refine lv_iload_n hx hb dX8_areCounts_40 rfl (lv_at hl 0 rfl) ?_
          refine lv_if_eq (tgt := 48) hx hb dX8_areCounts_41 (by decide) (fun h8 => ?_) (fun h8 => ?_)
          · refine lv_iconst (v := 1) hx hb dX8_areCounts_48 (by decide) ?_
            refine va_put (D := D) (ci := 4) (v := .int 1) (ty := .int) (C := RX8) (T := TX8) (N := 9) hx hb hts i_X8 tyX8 tyX8_ok nmX8 hown hK hP hD hS 0 rfl rfl 8 (by decide) (hts _ u742) (fun _ h9 => h9) rfl (by decide +kernel) rfl rfl (Nat.le_of_ble_eq_true rfl) dX8_areCounts_49 (fun H locs hP hD hS => ?_)
            have hP : va_P D zcl [(q, .inr (4, [.ref a1, .ref a2, .ref a3, .ref a4, .ref a5, .int (nI n0), .int nc, .int (bI ne), .int 1])), (a1, .inl (T 0, 8, .inl (fun k => nI (yv k / 4)))), (a2, .inl (T 2, 8, .inl (fun k => bI (isE (yv k))))), (a3, .inl (T 2, 8, .inl (fun k => bI (isB (yv k))))), (a4, .inl (T 0, 60, .inl (fun k => nI (tw k / 4)))), (a5, .inl (T 2, 60, .inl (fun k => bI (isE (tw k)))))] H := hP
            have hD : va_D A [(q, .inr (4, [.ref a1, .ref a2, .ref a3, .ref a4, .ref a5, .int (nI n0), .int nc, .int (bI ne), .int 1])), (a1, .inl (T 0, 8, .inl (fun k => nI (yv k / 4)))), (a2, .inl (T 2, 8, .inl (fun k => bI (isE (yv k))))), (a3, .inl (T 2, 8, .inl (fun k => bI (isB (yv k))))), (a4, .inl (T 0, 60, .inl (fun k => nI (tw k / 4)))), (a5, .inl (T 2, 60, .inl (fun k => bI (isE (tw k)))))] := hD
            refine lv_iload_n hx hb dX8_areCounts_52 rfl (lv_at hl 0 rfl) ?_
            exact zh_zret () hx hb hr hlocks dX8_areCounts_53 hP hD hS (bI_f (zif_neg h1 (zif_neg h3 (zif_neg h5 (zif_pos h7 rfl)))).symm) (by rw [← (show false = arC x y from (zif_neg h1 (zif_neg h3 (zif_neg h5 (zif_pos h7 rfl)))))]; rfl)
          · exact absurd h8 (by decide)
        · refine lv_iload_n hx hb dX8_areCounts_19 rfl (lv_at hl 1 rfl) ?_
          refine lv_i2l hx hb dX8_areCounts_20 rfl ?_
          refine lv_iload_n hx hb dX8_areCounts_21 rfl (lv_at hl 2 rfl) ?_
          refine lv_i2l hx hb dX8_areCounts_22 rfl ?_
          refine lv_ladd hx hb dX8_areCounts_23 ?_
          refine lv_lconst (v := 1) hx hb dX8_areCounts_24 (by decide) ?_
          refine lv_lsub hx hb dX8_areCounts_25 ?_
          refine lv_ldc2 hx hb hown (hts _ u851) dX8_areCounts_26 ?_
          refine zl_gt (tgt := 37) hx hb dX8_areCounts_29 dX8_areCounts_30 (by decide) (fun h9 => ?_) (fun h9 => ?_)
          · refine lv_iconst (v := 0) hx hb dX8_areCounts_37 (by decide) ?_
            refine lv_istore_n (lv' := [(3, .int 0), (0, .ref q), (1, .int x), (2, .int y)]) hx hb dX8_areCounts_38 rfl hl (by decide) rfl (fun ls hl => ?_)
            refine lv_aload_n hx hb dX8_areCounts_39 rfl (lv_at hl 1 rfl) ?_
            refine lv_iload_n hx hb dX8_areCounts_40 rfl (lv_at hl 0 rfl) ?_
            refine lv_if_eq (tgt := 48) hx hb dX8_areCounts_41 (by decide) (fun h10 => ?_) (fun h10 => ?_)
            · refine lv_iconst (v := 1) hx hb dX8_areCounts_48 (by decide) ?_
              refine va_put (D := D) (ci := 4) (v := .int 1) (ty := .int) (C := RX8) (T := TX8) (N := 9) hx hb hts i_X8 tyX8 tyX8_ok nmX8 hown hK hP hD hS 0 rfl rfl 8 (by decide) (hts _ u742) (fun _ h9 => h9) rfl (by decide +kernel) rfl rfl (Nat.le_of_ble_eq_true rfl) dX8_areCounts_49 (fun H locs hP hD hS => ?_)
              have hP : va_P D zcl [(q, .inr (4, [.ref a1, .ref a2, .ref a3, .ref a4, .ref a5, .int (nI n0), .int nc, .int (bI ne), .int 1])), (a1, .inl (T 0, 8, .inl (fun k => nI (yv k / 4)))), (a2, .inl (T 2, 8, .inl (fun k => bI (isE (yv k))))), (a3, .inl (T 2, 8, .inl (fun k => bI (isB (yv k))))), (a4, .inl (T 0, 60, .inl (fun k => nI (tw k / 4)))), (a5, .inl (T 2, 60, .inl (fun k => bI (isE (tw k)))))] H := hP
              have hD : va_D A [(q, .inr (4, [.ref a1, .ref a2, .ref a3, .ref a4, .ref a5, .int (nI n0), .int nc, .int (bI ne), .int 1])), (a1, .inl (T 0, 8, .inl (fun k => nI (yv k / 4)))), (a2, .inl (T 2, 8, .inl (fun k => bI (isE (yv k))))), (a3, .inl (T 2, 8, .inl (fun k => bI (isB (yv k))))), (a4, .inl (T 0, 60, .inl (fun k => nI (tw k / 4)))), (a5, .inl (T 2, 60, .inl (fun k => bI (isE (tw k)))))] := hD
              refine lv_iload_n hx hb dX8_areCounts_52 rfl (lv_at hl 0 rfl) ?_
              exact zh_zret () hx hb hr hlocks dX8_areCounts_53 hP hD hS (bI_f (zif_neg h1 (zif_neg h3 (zif_neg h5 (zif_neg h7 (zif_pos h9 rfl))))).symm) (by rw [← (show false = arC x y from (zif_neg h1 (zif_neg h3 (zif_neg h5 (zif_neg h7 (zif_pos h9 rfl))))))]; rfl)
            · exact absurd h10 (by decide)
          · refine lv_iconst (v := 1) hx hb dX8_areCounts_33 (by decide) ?_
            refine lv_goto (tgt := 38) hx hb dX8_areCounts_34 (by decide) ?_
            refine lv_istore_n (lv' := [(3, .int 1), (0, .ref q), (1, .int x), (2, .int y)]) hx hb dX8_areCounts_38 rfl hl (by decide) rfl (fun ls hl => ?_)
            refine lv_aload_n hx hb dX8_areCounts_39 rfl (lv_at hl 1 rfl) ?_
            refine lv_iload_n hx hb dX8_areCounts_40 rfl (lv_at hl 0 rfl) ?_
            refine lv_if_eq (tgt := 48) hx hb dX8_areCounts_41 (by decide) (fun h11 => ?_) (fun h11 => ?_)
            · exact absurd h11 (by decide)
            · refine lv_iconst (v := 0) hx hb dX8_areCounts_44 (by decide) ?_
              refine lv_goto (tgt := 49) hx hb dX8_areCounts_45 (by decide) ?_
              refine va_put (D := D) (ci := 4) (v := .int 0) (ty := .int) (C := RX8) (T := TX8) (N := 9) hx hb hts i_X8 tyX8 tyX8_ok nmX8 hown hK hP hD hS 0 rfl rfl 8 (by decide) (hts _ u742) (fun _ h9 => h9) rfl (by decide +kernel) rfl rfl (Nat.le_of_ble_eq_true rfl) dX8_areCounts_49 (fun H locs hP hD hS => ?_)
              have hP : va_P D zcl [(q, .inr (4, [.ref a1, .ref a2, .ref a3, .ref a4, .ref a5, .int (nI n0), .int nc, .int (bI ne), .int 0])), (a1, .inl (T 0, 8, .inl (fun k => nI (yv k / 4)))), (a2, .inl (T 2, 8, .inl (fun k => bI (isE (yv k))))), (a3, .inl (T 2, 8, .inl (fun k => bI (isB (yv k))))), (a4, .inl (T 0, 60, .inl (fun k => nI (tw k / 4)))), (a5, .inl (T 2, 60, .inl (fun k => bI (isE (tw k)))))] H := hP
              have hD : va_D A [(q, .inr (4, [.ref a1, .ref a2, .ref a3, .ref a4, .ref a5, .int (nI n0), .int nc, .int (bI ne), .int 0])), (a1, .inl (T 0, 8, .inl (fun k => nI (yv k / 4)))), (a2, .inl (T 2, 8, .inl (fun k => bI (isE (yv k))))), (a3, .inl (T 2, 8, .inl (fun k => bI (isB (yv k))))), (a4, .inl (T 0, 60, .inl (fun k => nI (tw k / 4)))), (a5, .inl (T 2, 60, .inl (fun k => bI (isE (tw k)))))] := hD
              refine lv_iload_n hx hb dX8_areCounts_52 rfl (lv_at hl 0 rfl) ?_
              exact zh_zret () hx hb hr hlocks dX8_areCounts_53 hP hD hS (bI_t (zif_neg h1 (zif_neg h3 (zif_neg h5 (zif_neg h7 (zif_neg h9 rfl))))).symm) (by rw [← (show true = arC x y from (zif_neg h1 (zif_neg h3 (zif_neg h5 (zif_neg h7 (zif_neg h9 rfl))))))]; rfl)
set_option maxRecDepth 20000 in
theorem c_X8_sum_ok (l : Launch) (D : va_G) (T : Nat → ClassId) (q a1 a2 a3 a4 a5 : Nat) (yv tw : Nat → Nat) (n0 : Nat) (nc : Int32) (ne : Bool) (th : Int32) (k0 : Nat) (hk : k0 ≤ 256) (x : Int32) (f : Nat) (hxx : 0 < k0 → x = nI f ∧ f + k0 ≤ 65536) : Hm l yX8_sum cX8_sum 5 (some FieldType.int) 2 0 0 D T [.ref q, .int x, .int (nI k0)] [(q, .inr (4, [.ref a1, .ref a2, .ref a3, .ref a4, .ref a5, .int (nI n0), .int nc, .int (bI ne), .int th])), (a1, .inl (T 0, 8, .inl (fun k => nI (yv k / 4)))), (a2, .inl (T 2, 8, .inl (fun k => bI (isE (yv k))))), (a3, .inl (T 2, 8, .inl (fun k => bI (isB (yv k))))), (a4, .inl (T 0, 60, .inl (fun k => nI (tw k / 4)))), (a5, .inl (T 2, 60, .inl (fun k => bI (isE (tw k)))))] (some (.int (nI (smN f k0)))) (fun _ : Unit => [(q, .inr (4, [.ref a1, .ref a2, .ref a3, .ref a4, .ref a5, .int (nI n0), .int nc, .int (bI ne), .int 0])), (a1, .inl (T 0, 8, .inl (fun k => nI (yv k / 4)))), (a2, .inl (T 2, 8, .inl (fun k => bI (isE (yv k))))), (a3, .inl (T 2, 8, .inl (fun k => bI (isB (yv k))))), (a4, .inl (T 0, 60, .inl (fun k => nI (tw k / 4)))), (a5, .inl (T 2, 60, .inl (fun k => bI (isE (tw k)))))]) := by
  refine Hm.of (by decide) (Nat.le_of_ble_eq_true rfl) ?_
  intro zp ze s zm args below zmeth zc hx hb hr hml hown hin hts hlocks A hA hP hK hD hS ls hl
  have hl : lv_has ls 5 [(0, .ref q), (1, .int x), (2, .int (nI k0))] := hl
  refine lv_iconst (v := 0) hx hb dX8_sum_0 (by decide) ?_
  refine lv_istore_n (lv' := [(3, .int 0), (0, .ref q), (1, .int x), (2, .int (nI k0))]) hx hb dX8_sum_1 rfl hl (by decide) rfl (fun ls hl => ?_)
  refine lv_aload_n hx hb dX8_sum_2 rfl (lv_at hl 1 rfl) ?_
  refine lv_iload_n hx hb dX8_sum_3 rfl (lv_at hl 2 rfl) ?_
  refine lv_iload_n hx hb dX8_sum_4 rfl (lv_at hl 3 rfl) ?_
  refine zh_v (T := T) hx hb hml hown hts k_X8_97 (c_X8_areCounts l D T q a1 a2 a3 a4 a5 yv tw n0 nc ne th x (nI k0)) ⟨by decide, by decide⟩ rfl hl.1 [] rfl (Nat.le_of_ble_eq_true rfl) dX8_sum_5 ⟨Nat.le_of_ble_eq_true rfl, Nat.le_of_ble_eq_true rfl⟩ hK hP hD hS hA (ci := 4) rfl rfl rfl [0, 1, 2, 3, 4, 5] [] (wr := []) rfl rfl (by decide) (by decide) (by decide) [0, 1, 2, 3, 4, 5] (fun _ => [(q, .inr (4, [.ref a1, .ref a2, .ref a3, .ref a4, .ref a5, .int (nI n0), .int nc, .int (bI ne), .int (if arC x (nI k0) = true then 0 else 1)])), (a1, .inl (T 0, 8, .inl (fun k => nI (yv k / 4)))), (a2, .inl (T 2, 8, .inl (fun k => bI (isE (yv k))))), (a3, .inl (T 2, 8, .inl (fun k => bI (isB (yv k))))), (a4, .inl (T 0, 60, .inl (fun k => nI (tw k / 4)))), (a5, .inl (T 2, 60, .inl (fun k => bI (isE (tw k)))))]) (by decide) (fun _ => rfl) (fun _ H locs hP hD hS => ?_)
  have hP : va_P D zcl [(q, .inr (4, [.ref a1, .ref a2, .ref a3, .ref a4, .ref a5, .int (nI n0), .int nc, .int (bI ne), .int (if arC x (nI k0) = true then 0 else 1)])), (a1, .inl (T 0, 8, .inl (fun k => nI (yv k / 4)))), (a2, .inl (T 2, 8, .inl (fun k => bI (isE (yv k))))), (a3, .inl (T 2, 8, .inl (fun k => bI (isB (yv k))))), (a4, .inl (T 0, 60, .inl (fun k => nI (tw k / 4)))), (a5, .inl (T 2, 60, .inl (fun k => bI (isE (tw k)))))] H := hP
  have hD : va_D A [(q, .inr (4, [.ref a1, .ref a2, .ref a3, .ref a4, .ref a5, .int (nI n0), .int nc, .int (bI ne), .int (if arC x (nI k0) = true then 0 else 1)])), (a1, .inl (T 0, 8, .inl (fun k => nI (yv k / 4)))), (a2, .inl (T 2, 8, .inl (fun k => bI (isE (yv k))))), (a3, .inl (T 2, 8, .inl (fun k => bI (isB (yv k))))), (a4, .inl (T 0, 60, .inl (fun k => nI (tw k / 4)))), (a5, .inl (T 2, 60, .inl (fun k => bI (isE (tw k)))))] := hD
  rw [if_pos (arC_ok hk hxx)] at hP hD
  have hP : va_P D zcl [(q, .inr (4, [.ref a1, .ref a2, .ref a3, .ref a4, .ref a5, .int (nI n0), .int nc, .int (bI ne), .int 0])), (a1, .inl (T 0, 8, .inl (fun k => nI (yv k / 4)))), (a2, .inl (T 2, 8, .inl (fun k => bI (isE (yv k))))), (a3, .inl (T 2, 8, .inl (fun k => bI (isB (yv k))))), (a4, .inl (T 0, 60, .inl (fun k => nI (tw k / 4)))), (a5, .inl (T 2, 60, .inl (fun k => bI (isE (tw k)))))] H := hP
  have hD : va_D A [(q, .inr (4, [.ref a1, .ref a2, .ref a3, .ref a4, .ref a5, .int (nI n0), .int nc, .int (bI ne), .int 0])), (a1, .inl (T 0, 8, .inl (fun k => nI (yv k / 4)))), (a2, .inl (T 2, 8, .inl (fun k => bI (isE (yv k))))), (a3, .inl (T 2, 8, .inl (fun k => bI (isB (yv k))))), (a4, .inl (T 0, 60, .inl (fun k => nI (tw k / 4)))), (a5, .inl (T 2, 60, .inl (fun k => bI (isE (tw k)))))] := hD
  refine zb_eq (tgt := 39) hx hb dX8_sum_8 (by decide) (fun h1 => ?_) (fun h1 => ?_)
  · exact absurd ((arC_ok hk hxx).symm.trans h1) (by decide)
  · refine lv_iconst (v := 0) hx hb dX8_sum_11 (by decide) ?_
    refine lv_istore (lv' := [(4, .int 0), (3, .int 0), (0, .ref q), (1, .int x), (2, .int (nI k0))]) hx hb dX8_sum_12 hl (by decide) rfl (fun ls hl => ?_)
    have lp : ∀ (n : Nat) (i : Nat), i + n = k0 → ∀ (H : Heap) (locs : List Loc), va_P D zcl [(q, .inr (4, [.ref a1, .ref a2, .ref a3, .ref a4, .ref a5, .int (nI n0), .int nc, .int (bI ne), .int 0])), (a1, .inl (T 0, 8, .inl (fun k => nI (yv k / 4)))), (a2, .inl (T 2, 8, .inl (fun k => bI (isE (yv k))))), (a3, .inl (T 2, 8, .inl (fun k => bI (isB (yv k))))), (a4, .inl (T 0, 60, .inl (fun k => nI (tw k / 4)))), (a5, .inl (T 2, 60, .inl (fun k => bI (isE (tw k)))))] H → va_D A [(q, .inr (4, [.ref a1, .ref a2, .ref a3, .ref a4, .ref a5, .int (nI n0), .int nc, .int (bI ne), .int 0])), (a1, .inl (T 0, 8, .inl (fun k => nI (yv k / 4)))), (a2, .inl (T 2, 8, .inl (fun k => bI (isE (yv k))))), (a3, .inl (T 2, 8, .inl (fun k => bI (isB (yv k))))), (a4, .inl (T 0, 60, .inl (fun k => nI (tw k / 4)))), (a5, .inl (T 2, 60, .inl (fun k => bI (isE (tw k)))))] → va_S A s.heap H locs → ∀ ls : Array Slot, lv_has ls 5 [(0, .ref q), (1, .int x), (2, .int (nI k0)), (3, .int (nI (smN f i))), (4, .int (nI i))] → W zp l ze (zR 2 0 0) s zm args below zmeth zc H locs 0 0 (MQ below (zQh D A (some (.int (nI (smN f k0)))) (fun _ : Unit => [(q, .inr (4, [.ref a1, .ref a2, .ref a3, .ref a4, .ref a5, .int (nI n0), .int nc, .int (bI ne), .int 0])), (a1, .inl (T 0, 8, .inl (fun k => nI (yv k / 4)))), (a2, .inl (T 2, 8, .inl (fun k => bI (isE (yv k))))), (a3, .inl (T 2, 8, .inl (fun k => bI (isB (yv k))))), (a4, .inl (T 0, 60, .inl (fun k => nI (tw k / 4)))), (a5, .inl (T 2, 60, .inl (fun k => bI (isE (tw k)))))])) args s 0 0 A) (F0 zm 14 ls []) := by
      intro n
      induction n with
      | zero =>
        intro i hi H locs hP hD hS ls hl
        have hik : i = k0 := by omega
        refine lv_iload hx hb dX8_sum_14 (lv_at hl 4 rfl) ?_
        refine lv_iload_n hx hb dX8_sum_16 rfl (lv_at hl 2 rfl) ?_
        refine lv_icmp_ge (tgt := 39) hx hb dX8_sum_17 (by decide) (fun h2 => ?_) (fun h2 => ?_)
        · refine lv_iload_n hx hb dX8_sum_39 rfl (lv_at hl 3 rfl) ?_
          exact zh_iret () hx hb hr hlocks dX8_sum_40 hP hD hS (by rw [hik]) (rfl)
        · exact absurd (nI_le (by omega) (by omega)) h2
      | succ n ih =>
        intro i hi H locs hP hD hS ls hl
        obtain ⟨hxe, hfk⟩   := hxx (by omega)
        refine lv_iload hx hb dX8_sum_14 (lv_at hl 4 rfl) ?_
        refine lv_iload_n hx hb dX8_sum_16 rfl (lv_at hl 2 rfl) ?_
        refine lv_icmp_ge (tgt := 39) hx hb dX8_sum_17 (by decide) (fun h3 => ?_) (fun h3 => ?_)
        · exact absurd h3 (nI_ge (by omega) (by omega))
        · refine lv_iload_n hx hb dX8_sum_20 rfl (lv_at hl 3 rfl) ?_
          refine lv_bipush (v := 8) hx hb dX8_sum_21 (by decide) ?_
          refine lv_iload_n hx hb dX8_sum_23 rfl (lv_at hl 1 rfl) ?_
          refine lv_iload hx hb dX8_sum_24 (lv_at hl 4 rfl) ?_
          refine lv_iadd hx hb dX8_sum_26 ?_
          refine zf_i (x' := nI (f + i)) (by rw [hxe]; exact nI_add f i) ?_
          refine lv_imul hx hb dX8_sum_27 ?_
          refine zf_i (x' := nI (8 * (f + i))) (pk_mul 8 (f + i)) ?_
          refine zp_call hx hb hml hown hts k_X8_47 (c_X8_fineOf l (8 * (f + i)) (by omega)) ⟨by decide, by decide⟩ rfl hl.1 [.int (nI (smN f i))] rfl (Nat.le_of_ble_eq_true rfl) dX8_sum_28 ⟨Nat.le_of_ble_eq_true rfl, Nat.le_of_ble_eq_true rfl⟩ ?_
          refine lv_iadd hx hb dX8_sum_31 ?_
          refine zf_i (x' := nI (smN f (i + 1))) (nI_add _ _) ?_
          refine lv_istore_n (lv' := [(3, .int (nI (smN f (i + 1)))), (0, .ref q), (1, .int x), (2, .int (nI k0)), (4, .int (nI i))]) hx hb dX8_sum_32 rfl hl (by decide) rfl (fun ls hl => ?_)
          refine lv_iinc (v := (nI (i + 1))) (lv' := [(4, .int (nI (i + 1))), (3, .int (nI (smN f (i + 1)))), (0, .ref q), (1, .int x), (2, .int (nI k0))]) hx hb dX8_sum_33 hl (k := 4) rfl (nI_1 i) (by decide) rfl (fun ls hl => ?_)
          refine lv_goto (tgt := 14) hx hb dX8_sum_36 (by decide) ?_
          exact ih (i + 1) (by omega) _ _ hP hD hS ls (lv_sub hl [2, 3, 4, 1, 0] rfl)
    exact lp k0 0 (by omega) _ _ hP hD hS ls (lv_sub hl [2, 3, 4, 1, 0] rfl)
set_option maxRecDepth 20000 in
theorem c_X8_sum_no (l : Launch) (D : va_G) (T : Nat → ClassId) (q a1 a2 a3 a4 a5 : Nat) (yv tw : Nat → Nat) (n0 : Nat) (nc : Int32) (ne : Bool) (th : Int32) (x y : Int32) (ha : arC x y = false) : Hm l yX8_sum cX8_sum 5 (some FieldType.int) 2 0 0 D T [.ref q, .int x, .int y] [(q, .inr (4, [.ref a1, .ref a2, .ref a3, .ref a4, .ref a5, .int (nI n0), .int nc, .int (bI ne), .int th])), (a1, .inl (T 0, 8, .inl (fun k => nI (yv k / 4)))), (a2, .inl (T 2, 8, .inl (fun k => bI (isE (yv k))))), (a3, .inl (T 2, 8, .inl (fun k => bI (isB (yv k))))), (a4, .inl (T 0, 60, .inl (fun k => nI (tw k / 4)))), (a5, .inl (T 2, 60, .inl (fun k => bI (isE (tw k)))))] (some (.int 0)) (fun _ : Unit => [(q, .inr (4, [.ref a1, .ref a2, .ref a3, .ref a4, .ref a5, .int (nI n0), .int nc, .int (bI ne), .int 1])), (a1, .inl (T 0, 8, .inl (fun k => nI (yv k / 4)))), (a2, .inl (T 2, 8, .inl (fun k => bI (isE (yv k))))), (a3, .inl (T 2, 8, .inl (fun k => bI (isB (yv k))))), (a4, .inl (T 0, 60, .inl (fun k => nI (tw k / 4)))), (a5, .inl (T 2, 60, .inl (fun k => bI (isE (tw k)))))]) := by
  refine Hm.of (by decide) (Nat.le_of_ble_eq_true rfl) ?_
  intro zp ze s zm args below zmeth zc hx hb hr hml hown hin hts hlocks A hA hP hK hD hS ls hl
  have hl : lv_has ls 5 [(0, .ref q), (1, .int x), (2, .int y)] := hl
  refine lv_iconst (v := 0) hx hb dX8_sum_0 (by decide) ?_
  refine lv_istore_n (lv' := [(3, .int 0), (0, .ref q), (1, .int x), (2, .int y)]) hx hb dX8_sum_1 rfl hl (by decide) rfl (fun ls hl => ?_)
  refine lv_aload_n hx hb dX8_sum_2 rfl (lv_at hl 1 rfl) ?_
  refine lv_iload_n hx hb dX8_sum_3 rfl (lv_at hl 2 rfl) ?_
  refine lv_iload_n hx hb dX8_sum_4 rfl (lv_at hl 3 rfl) ?_
  refine zh_v (T := T) hx hb hml hown hts k_X8_97 (c_X8_areCounts l D T q a1 a2 a3 a4 a5 yv tw n0 nc ne th x y) ⟨by decide, by decide⟩ rfl hl.1 [] rfl (Nat.le_of_ble_eq_true rfl) dX8_sum_5 ⟨Nat.le_of_ble_eq_true rfl, Nat.le_of_ble_eq_true rfl⟩ hK hP hD hS hA (ci := 4) rfl rfl rfl [0, 1, 2, 3, 4, 5] [] (wr := []) rfl rfl (by decide) (by decide) (by decide) [0, 1, 2, 3, 4, 5] (fun _ => [(q, .inr (4, [.ref a1, .ref a2, .ref a3, .ref a4, .ref a5, .int (nI n0), .int nc, .int (bI ne), .int (if arC x y = true then 0 else 1)])), (a1, .inl (T 0, 8, .inl (fun k => nI (yv k / 4)))), (a2, .inl (T 2, 8, .inl (fun k => bI (isE (yv k))))), (a3, .inl (T 2, 8, .inl (fun k => bI (isB (yv k))))), (a4, .inl (T 0, 60, .inl (fun k => nI (tw k / 4)))), (a5, .inl (T 2, 60, .inl (fun k => bI (isE (tw k)))))]) (by decide) (fun _ => rfl) (fun _ H locs hP hD hS => ?_)
  have hP : va_P D zcl [(q, .inr (4, [.ref a1, .ref a2, .ref a3, .ref a4, .ref a5, .int (nI n0), .int nc, .int (bI ne), .int (if arC x y = true then 0 else 1)])), (a1, .inl (T 0, 8, .inl (fun k => nI (yv k / 4)))), (a2, .inl (T 2, 8, .inl (fun k => bI (isE (yv k))))), (a3, .inl (T 2, 8, .inl (fun k => bI (isB (yv k))))), (a4, .inl (T 0, 60, .inl (fun k => nI (tw k / 4)))), (a5, .inl (T 2, 60, .inl (fun k => bI (isE (tw k)))))] H := hP
  have hD : va_D A [(q, .inr (4, [.ref a1, .ref a2, .ref a3, .ref a4, .ref a5, .int (nI n0), .int nc, .int (bI ne), .int (if arC x y = true then 0 else 1)])), (a1, .inl (T 0, 8, .inl (fun k => nI (yv k / 4)))), (a2, .inl (T 2, 8, .inl (fun k => bI (isE (yv k))))), (a3, .inl (T 2, 8, .inl (fun k => bI (isB (yv k))))), (a4, .inl (T 0, 60, .inl (fun k => nI (tw k / 4)))), (a5, .inl (T 2, 60, .inl (fun k => bI (isE (tw k)))))] := hD
  rw [if_neg (fun q => absurd (ha.symm.trans q) (by decide))] at hP hD
  have hP : va_P D zcl [(q, .inr (4, [.ref a1, .ref a2, .ref a3, .ref a4, .ref a5, .int (nI n0), .int nc, .int (bI ne), .int 1])), (a1, .inl (T 0, 8, .inl (fun k => nI (yv k / 4)))), (a2, .inl (T 2, 8, .inl (fun k => bI (isE (yv k))))), (a3, .inl (T 2, 8, .inl (fun k => bI (isB (yv k))))), (a4, .inl (T 0, 60, .inl (fun k => nI (tw k / 4)))), (a5, .inl (T 2, 60, .inl (fun k => bI (isE (tw k)))))] H := hP
  have hD : va_D A [(q, .inr (4, [.ref a1, .ref a2, .ref a3, .ref a4, .ref a5, .int (nI n0), .int nc, .int (bI ne), .int 1])), (a1, .inl (T 0, 8, .inl (fun k => nI (yv k / 4)))), (a2, .inl (T 2, 8, .inl (fun k => bI (isE (yv k))))), (a3, .inl (T 2, 8, .inl (fun k => bI (isB (yv k))))), (a4, .inl (T 0, 60, .inl (fun k => nI (tw k / 4)))), (a5, .inl (T 2, 60, .inl (fun k => bI (isE (tw k)))))] := hD
  refine zb_eq (tgt := 39) hx hb dX8_sum_8 (by decide) (fun h1 => ?_) (fun h1 => ?_)
  · refine lv_iload_n hx hb dX8_sum_39 rfl (lv_at hl 0 rfl) ?_
    exact zh_iret () hx hb hr hlocks dX8_sum_40 hP hD hS (rfl) (rfl)
  · exact absurd (ha.symm.trans h1) (by decide)
set_option maxRecDepth 20000 in
theorem c_X8_exact_ok (l : Launch) (D : va_G) (T : Nat → ClassId) (q a1 a2 a3 a4 a5 : Nat) (yv tw : Nat → Nat) (n0 : Nat) (nc : Int32) (ne : Bool) (th : Int32) (k0 : Nat) (hk : k0 ≤ 256) (x : Int32) (f : Nat) (hxx : 0 < k0 → x = nI f ∧ f + k0 ≤ 65536) : Hm l yX8_exact cX8_exact 5 (some FieldType.int) 2 0 0 D T [.ref q, .int x, .int (nI k0)] [(q, .inr (4, [.ref a1, .ref a2, .ref a3, .ref a4, .ref a5, .int (nI n0), .int nc, .int (bI ne), .int th])), (a1, .inl (T 0, 8, .inl (fun k => nI (yv k / 4)))), (a2, .inl (T 2, 8, .inl (fun k => bI (isE (yv k))))), (a3, .inl (T 2, 8, .inl (fun k => bI (isB (yv k))))), (a4, .inl (T 0, 60, .inl (fun k => nI (tw k / 4)))), (a5, .inl (T 2, 60, .inl (fun k => bI (isE (tw k)))))] (some (.int (nI (exN f k0)))) (fun _ : Unit => [(q, .inr (4, [.ref a1, .ref a2, .ref a3, .ref a4, .ref a5, .int (nI n0), .int nc, .int (bI ne), .int 0])), (a1, .inl (T 0, 8, .inl (fun k => nI (yv k / 4)))), (a2, .inl (T 2, 8, .inl (fun k => bI (isE (yv k))))), (a3, .inl (T 2, 8, .inl (fun k => bI (isB (yv k))))), (a4, .inl (T 0, 60, .inl (fun k => nI (tw k / 4)))), (a5, .inl (T 2, 60, .inl (fun k => bI (isE (tw k)))))]) := by
  refine Hm.of (by decide) (Nat.le_of_ble_eq_true rfl) ?_
  intro zp ze s zm args below zmeth zc hx hb hr hml hown hin hts hlocks A hA hP hK hD hS ls hl
  have hl : lv_has ls 5 [(0, .ref q), (1, .int x), (2, .int (nI k0))] := hl
  refine lv_iconst (v := 0) hx hb dX8_exact_0 (by decide) ?_
  refine lv_istore_n (lv' := [(3, .int 0), (0, .ref q), (1, .int x), (2, .int (nI k0))]) hx hb dX8_exact_1 rfl hl (by decide) rfl (fun ls hl => ?_)
  refine lv_aload_n hx hb dX8_exact_2 rfl (lv_at hl 1 rfl) ?_
  refine lv_iload_n hx hb dX8_exact_3 rfl (lv_at hl 2 rfl) ?_
  refine lv_iload_n hx hb dX8_exact_4 rfl (lv_at hl 3 rfl) ?_
  refine zh_v (T := T) hx hb hml hown hts k_X8_97 (c_X8_areCounts l D T q a1 a2 a3 a4 a5 yv tw n0 nc ne th x (nI k0)) ⟨by decide, by decide⟩ rfl hl.1 [] rfl (Nat.le_of_ble_eq_true rfl) dX8_exact_5 ⟨Nat.le_of_ble_eq_true rfl, Nat.le_of_ble_eq_true rfl⟩ hK hP hD hS hA (ci := 4) rfl rfl rfl [0, 1, 2, 3, 4, 5] [] (wr := []) rfl rfl (by decide) (by decide) (by decide) [0, 1, 2, 3, 4, 5] (fun _ => [(q, .inr (4, [.ref a1, .ref a2, .ref a3, .ref a4, .ref a5, .int (nI n0), .int nc, .int (bI ne), .int (if arC x (nI k0) = true then 0 else 1)])), (a1, .inl (T 0, 8, .inl (fun k => nI (yv k / 4)))), (a2, .inl (T 2, 8, .inl (fun k => bI (isE (yv k))))), (a3, .inl (T 2, 8, .inl (fun k => bI (isB (yv k))))), (a4, .inl (T 0, 60, .inl (fun k => nI (tw k / 4)))), (a5, .inl (T 2, 60, .inl (fun k => bI (isE (tw k)))))]) (by decide) (fun _ => rfl) (fun _ H locs hP hD hS => ?_)
  have hP : va_P D zcl [(q, .inr (4, [.ref a1, .ref a2, .ref a3, .ref a4, .ref a5, .int (nI n0), .int nc, .int (bI ne), .int (if arC x (nI k0) = true then 0 else 1)])), (a1, .inl (T 0, 8, .inl (fun k => nI (yv k / 4)))), (a2, .inl (T 2, 8, .inl (fun k => bI (isE (yv k))))), (a3, .inl (T 2, 8, .inl (fun k => bI (isB (yv k))))), (a4, .inl (T 0, 60, .inl (fun k => nI (tw k / 4)))), (a5, .inl (T 2, 60, .inl (fun k => bI (isE (tw k)))))] H := hP
  have hD : va_D A [(q, .inr (4, [.ref a1, .ref a2, .ref a3, .ref a4, .ref a5, .int (nI n0), .int nc, .int (bI ne), .int (if arC x (nI k0) = true then 0 else 1)])), (a1, .inl (T 0, 8, .inl (fun k => nI (yv k / 4)))), (a2, .inl (T 2, 8, .inl (fun k => bI (isE (yv k))))), (a3, .inl (T 2, 8, .inl (fun k => bI (isB (yv k))))), (a4, .inl (T 0, 60, .inl (fun k => nI (tw k / 4)))), (a5, .inl (T 2, 60, .inl (fun k => bI (isE (tw k)))))] := hD
  rw [if_pos (arC_ok hk hxx)] at hP hD
  have hP : va_P D zcl [(q, .inr (4, [.ref a1, .ref a2, .ref a3, .ref a4, .ref a5, .int (nI n0), .int nc, .int (bI ne), .int 0])), (a1, .inl (T 0, 8, .inl (fun k => nI (yv k / 4)))), (a2, .inl (T 2, 8, .inl (fun k => bI (isE (yv k))))), (a3, .inl (T 2, 8, .inl (fun k => bI (isB (yv k))))), (a4, .inl (T 0, 60, .inl (fun k => nI (tw k / 4)))), (a5, .inl (T 2, 60, .inl (fun k => bI (isE (tw k)))))] H := hP
  have hD : va_D A [(q, .inr (4, [.ref a1, .ref a2, .ref a3, .ref a4, .ref a5, .int (nI n0), .int nc, .int (bI ne), .int 0])), (a1, .inl (T 0, 8, .inl (fun k => nI (yv k / 4)))), (a2, .inl (T 2, 8, .inl (fun k => bI (isE (yv k))))), (a3, .inl (T 2, 8, .inl (fun k => bI (isB (yv k))))), (a4, .inl (T 0, 60, .inl (fun k => nI (tw k / 4)))), (a5, .inl (T 2, 60, .inl (fun k => bI (isE (tw k)))))] := hD
  refine zb_eq (tgt := 44) hx hb dX8_exact_8 (by decide) (fun h1 => ?_) (fun h1 => ?_)
  · exact absurd ((arC_ok hk hxx).symm.trans h1) (by decide)
  · refine lv_iconst (v := 0) hx hb dX8_exact_11 (by decide) ?_
    refine lv_istore (lv' := [(4, .int 0), (3, .int 0), (0, .ref q), (1, .int x), (2, .int (nI k0))]) hx hb dX8_exact_12 hl (by decide) rfl (fun ls hl => ?_)
    have lp : ∀ (n : Nat) (i : Nat), i + n = k0 → ∀ (H : Heap) (locs : List Loc), va_P D zcl [(q, .inr (4, [.ref a1, .ref a2, .ref a3, .ref a4, .ref a5, .int (nI n0), .int nc, .int (bI ne), .int 0])), (a1, .inl (T 0, 8, .inl (fun k => nI (yv k / 4)))), (a2, .inl (T 2, 8, .inl (fun k => bI (isE (yv k))))), (a3, .inl (T 2, 8, .inl (fun k => bI (isB (yv k))))), (a4, .inl (T 0, 60, .inl (fun k => nI (tw k / 4)))), (a5, .inl (T 2, 60, .inl (fun k => bI (isE (tw k)))))] H → va_D A [(q, .inr (4, [.ref a1, .ref a2, .ref a3, .ref a4, .ref a5, .int (nI n0), .int nc, .int (bI ne), .int 0])), (a1, .inl (T 0, 8, .inl (fun k => nI (yv k / 4)))), (a2, .inl (T 2, 8, .inl (fun k => bI (isE (yv k))))), (a3, .inl (T 2, 8, .inl (fun k => bI (isB (yv k))))), (a4, .inl (T 0, 60, .inl (fun k => nI (tw k / 4)))), (a5, .inl (T 2, 60, .inl (fun k => bI (isE (tw k)))))] → va_S A s.heap H locs → ∀ ls : Array Slot, lv_has ls 5 [(0, .ref q), (1, .int x), (2, .int (nI k0)), (3, .int (nI (exN f i))), (4, .int (nI i))] → W zp l ze (zR 2 0 0) s zm args below zmeth zc H locs 0 0 (MQ below (zQh D A (some (.int (nI (exN f k0)))) (fun _ : Unit => [(q, .inr (4, [.ref a1, .ref a2, .ref a3, .ref a4, .ref a5, .int (nI n0), .int nc, .int (bI ne), .int 0])), (a1, .inl (T 0, 8, .inl (fun k => nI (yv k / 4)))), (a2, .inl (T 2, 8, .inl (fun k => bI (isE (yv k))))), (a3, .inl (T 2, 8, .inl (fun k => bI (isB (yv k))))), (a4, .inl (T 0, 60, .inl (fun k => nI (tw k / 4)))), (a5, .inl (T 2, 60, .inl (fun k => bI (isE (tw k)))))])) args s 0 0 A) (F0 zm 14 ls []) := by
      intro n
      induction n with
      | zero =>
        intro i hi H locs hP hD hS ls hl
        have hik : i = k0 := by omega
        refine lv_iload hx hb dX8_exact_14 (lv_at hl 4 rfl) ?_
        refine lv_iload_n hx hb dX8_exact_16 rfl (lv_at hl 2 rfl) ?_
        refine lv_icmp_ge (tgt := 44) hx hb dX8_exact_17 (by decide) (fun h2 => ?_) (fun h2 => ?_)
        · refine lv_iload_n hx hb dX8_exact_44 rfl (lv_at hl 3 rfl) ?_
          exact zh_iret () hx hb hr hlocks dX8_exact_45 hP hD hS (by rw [hik]) (rfl)
        · exact absurd (nI_le (by omega) (by omega)) h2
      | succ n ih =>
        intro i hi H locs hP hD hS ls hl
        obtain ⟨hxe, hfk⟩   := hxx (by omega)
        refine lv_iload hx hb dX8_exact_14 (lv_at hl 4 rfl) ?_
        refine lv_iload_n hx hb dX8_exact_16 rfl (lv_at hl 2 rfl) ?_
        refine lv_icmp_ge (tgt := 44) hx hb dX8_exact_17 (by decide) (fun h3 => ?_) (fun h3 => ?_)
        · exact absurd h3 (nI_ge (by omega) (by omega))
        · refine lv_iload_n hx hb dX8_exact_20 rfl (lv_at hl 3 rfl) ?_
          refine lv_iload_n hx hb dX8_exact_21 rfl (lv_at hl 1 rfl) ?_
          refine lv_iload hx hb dX8_exact_22 (lv_at hl 4 rfl) ?_
          refine lv_iadd hx hb dX8_exact_24 ?_
          refine zf_i (x' := nI (f + i)) (by rw [hxe]; exact nI_add f i) ?_
          refine zp_call hx hb hml hown hts k_X8_77 (c_X8_halves l (f + i) (by omega)) ⟨by decide, by decide⟩ rfl hl.1 [.int (nI (exN f i))] rfl (Nat.le_of_ble_eq_true rfl) dX8_exact_25 ⟨Nat.le_of_ble_eq_true rfl, Nat.le_of_ble_eq_true rfl⟩ ?_
          refine lv_if_lt (tgt := 35) hx hb dX8_exact_28 (by decide) (fun h4 => ?_) (fun h4 => ?_)
          · refine lv_iconst (v := 0) hx hb dX8_exact_35 (by decide) ?_
            refine lv_iadd hx hb dX8_exact_36 ?_
            refine zf_i (x' := nI (exN f (i + 1))) (by rw [exN, if_pos h4]; exact nI_add _ 0) ?_
            refine lv_istore_n (lv' := [(3, .int (nI (exN f (i + 1)))), (0, .ref q), (1, .int x), (2, .int (nI k0)), (4, .int (nI i))]) hx hb dX8_exact_37 rfl hl (by decide) rfl (fun ls hl => ?_)
            refine lv_iinc (v := (nI (i + 1))) (lv' := [(4, .int (nI (i + 1))), (3, .int (nI (exN f (i + 1)))), (0, .ref q), (1, .int x), (2, .int (nI k0))]) hx hb dX8_exact_38 hl (k := 4) rfl (nI_1 i) (by decide) rfl (fun ls hl => ?_)
            refine lv_goto (tgt := 14) hx hb dX8_exact_41 (by decide) ?_
            exact ih (i + 1) (by omega) _ _ hP hD hS ls (lv_sub hl [2, 3, 4, 1, 0] rfl)
          · refine lv_iconst (v := 1) hx hb dX8_exact_31 (by decide) ?_
            refine lv_goto (tgt := 36) hx hb dX8_exact_32 (by decide) ?_
            refine lv_iadd hx hb dX8_exact_36 ?_
            refine zf_i (x' := nI (exN f (i + 1))) (by rw [exN, if_neg h4]; exact nI_add _ 1) ?_
            refine lv_istore_n (lv' := [(3, .int (nI (exN f (i + 1)))), (0, .ref q), (1, .int x), (2, .int (nI k0)), (4, .int (nI i))]) hx hb dX8_exact_37 rfl hl (by decide) rfl (fun ls hl => ?_)
            refine lv_iinc (v := (nI (i + 1))) (lv' := [(4, .int (nI (i + 1))), (3, .int (nI (exN f (i + 1)))), (0, .ref q), (1, .int x), (2, .int (nI k0))]) hx hb dX8_exact_38 hl (k := 4) rfl (nI_1 i) (by decide) rfl (fun ls hl => ?_)
            refine lv_goto (tgt := 14) hx hb dX8_exact_41 (by decide) ?_
            exact ih (i + 1) (by omega) _ _ hP hD hS ls (lv_sub hl [2, 3, 4, 1, 0] rfl)
    exact lp k0 0 (by omega) _ _ hP hD hS ls (lv_sub hl [2, 3, 4, 1, 0] rfl)
set_option maxRecDepth 20000 in
theorem c_X8_exact_no (l : Launch) (D : va_G) (T : Nat → ClassId) (q a1 a2 a3 a4 a5 : Nat) (yv tw : Nat → Nat) (n0 : Nat) (nc : Int32) (ne : Bool) (th : Int32) (x y : Int32) (ha : arC x y = false) : Hm l yX8_exact cX8_exact 5 (some FieldType.int) 2 0 0 D T [.ref q, .int x, .int y] [(q, .inr (4, [.ref a1, .ref a2, .ref a3, .ref a4, .ref a5, .int (nI n0), .int nc, .int (bI ne), .int th])), (a1, .inl (T 0, 8, .inl (fun k => nI (yv k / 4)))), (a2, .inl (T 2, 8, .inl (fun k => bI (isE (yv k))))), (a3, .inl (T 2, 8, .inl (fun k => bI (isB (yv k))))), (a4, .inl (T 0, 60, .inl (fun k => nI (tw k / 4)))), (a5, .inl (T 2, 60, .inl (fun k => bI (isE (tw k)))))] (some (.int 0)) (fun _ : Unit => [(q, .inr (4, [.ref a1, .ref a2, .ref a3, .ref a4, .ref a5, .int (nI n0), .int nc, .int (bI ne), .int 1])), (a1, .inl (T 0, 8, .inl (fun k => nI (yv k / 4)))), (a2, .inl (T 2, 8, .inl (fun k => bI (isE (yv k))))), (a3, .inl (T 2, 8, .inl (fun k => bI (isB (yv k))))), (a4, .inl (T 0, 60, .inl (fun k => nI (tw k / 4)))), (a5, .inl (T 2, 60, .inl (fun k => bI (isE (tw k)))))]) := by
  refine Hm.of (by decide) (Nat.le_of_ble_eq_true rfl) ?_
  intro zp ze s zm args below zmeth zc hx hb hr hml hown hin hts hlocks A hA hP hK hD hS ls hl
  have hl : lv_has ls 5 [(0, .ref q), (1, .int x), (2, .int y)] := hl
  refine lv_iconst (v := 0) hx hb dX8_exact_0 (by decide) ?_
  refine lv_istore_n (lv' := [(3, .int 0), (0, .ref q), (1, .int x), (2, .int y)]) hx hb dX8_exact_1 rfl hl (by decide) rfl (fun ls hl => ?_)
  refine lv_aload_n hx hb dX8_exact_2 rfl (lv_at hl 1 rfl) ?_
  refine lv_iload_n hx hb dX8_exact_3 rfl (lv_at hl 2 rfl) ?_
  refine lv_iload_n hx hb dX8_exact_4 rfl (lv_at hl 3 rfl) ?_
  refine zh_v (T := T) hx hb hml hown hts k_X8_97 (c_X8_areCounts l D T q a1 a2 a3 a4 a5 yv tw n0 nc ne th x y) ⟨by decide, by decide⟩ rfl hl.1 [] rfl (Nat.le_of_ble_eq_true rfl) dX8_exact_5 ⟨Nat.le_of_ble_eq_true rfl, Nat.le_of_ble_eq_true rfl⟩ hK hP hD hS hA (ci := 4) rfl rfl rfl [0, 1, 2, 3, 4, 5] [] (wr := []) rfl rfl (by decide) (by decide) (by decide) [0, 1, 2, 3, 4, 5] (fun _ => [(q, .inr (4, [.ref a1, .ref a2, .ref a3, .ref a4, .ref a5, .int (nI n0), .int nc, .int (bI ne), .int (if arC x y = true then 0 else 1)])), (a1, .inl (T 0, 8, .inl (fun k => nI (yv k / 4)))), (a2, .inl (T 2, 8, .inl (fun k => bI (isE (yv k))))), (a3, .inl (T 2, 8, .inl (fun k => bI (isB (yv k))))), (a4, .inl (T 0, 60, .inl (fun k => nI (tw k / 4)))), (a5, .inl (T 2, 60, .inl (fun k => bI (isE (tw k)))))]) (by decide) (fun _ => rfl) (fun _ H locs hP hD hS => ?_)
  have hP : va_P D zcl [(q, .inr (4, [.ref a1, .ref a2, .ref a3, .ref a4, .ref a5, .int (nI n0), .int nc, .int (bI ne), .int (if arC x y = true then 0 else 1)])), (a1, .inl (T 0, 8, .inl (fun k => nI (yv k / 4)))), (a2, .inl (T 2, 8, .inl (fun k => bI (isE (yv k))))), (a3, .inl (T 2, 8, .inl (fun k => bI (isB (yv k))))), (a4, .inl (T 0, 60, .inl (fun k => nI (tw k / 4)))), (a5, .inl (T 2, 60, .inl (fun k => bI (isE (tw k)))))] H := hP
  have hD : va_D A [(q, .inr (4, [.ref a1, .ref a2, .ref a3, .ref a4, .ref a5, .int (nI n0), .int nc, .int (bI ne), .int (if arC x y = true then 0 else 1)])), (a1, .inl (T 0, 8, .inl (fun k => nI (yv k / 4)))), (a2, .inl (T 2, 8, .inl (fun k => bI (isE (yv k))))), (a3, .inl (T 2, 8, .inl (fun k => bI (isB (yv k))))), (a4, .inl (T 0, 60, .inl (fun k => nI (tw k / 4)))), (a5, .inl (T 2, 60, .inl (fun k => bI (isE (tw k)))))] := hD
  rw [if_neg (fun q => absurd (ha.symm.trans q) (by decide))] at hP hD
  have hP : va_P D zcl [(q, .inr (4, [.ref a1, .ref a2, .ref a3, .ref a4, .ref a5, .int (nI n0), .int nc, .int (bI ne), .int 1])), (a1, .inl (T 0, 8, .inl (fun k => nI (yv k / 4)))), (a2, .inl (T 2, 8, .inl (fun k => bI (isE (yv k))))), (a3, .inl (T 2, 8, .inl (fun k => bI (isB (yv k))))), (a4, .inl (T 0, 60, .inl (fun k => nI (tw k / 4)))), (a5, .inl (T 2, 60, .inl (fun k => bI (isE (tw k)))))] H := hP
  have hD : va_D A [(q, .inr (4, [.ref a1, .ref a2, .ref a3, .ref a4, .ref a5, .int (nI n0), .int nc, .int (bI ne), .int 1])), (a1, .inl (T 0, 8, .inl (fun k => nI (yv k / 4)))), (a2, .inl (T 2, 8, .inl (fun k => bI (isE (yv k))))), (a3, .inl (T 2, 8, .inl (fun k => bI (isB (yv k))))), (a4, .inl (T 0, 60, .inl (fun k => nI (tw k / 4)))), (a5, .inl (T 2, 60, .inl (fun k => bI (isE (tw k)))))] := hD
  refine zb_eq (tgt := 44) hx hb dX8_exact_8 (by decide) (fun h1 => ?_) (fun h1 => ?_)
  · refine lv_iload_n hx hb dX8_exact_44 rfl (lv_at hl 0 rfl) ?_
    exact zh_iret () hx hb hr hlocks dX8_exact_45 hP hD hS (rfl) (rfl)
  · exact absurd (ha.symm.trans h1) (by decide)
set_option maxRecDepth 20000 in
theorem c_X8_laidFine (l : Launch) (D : va_G) (T : Nat → ClassId) (q a1 a2 a3 a4 a5 : Nat) (yv tw : Nat → Nat) (n0 : Nat) (nc : Int32) (ne : Bool) (th : Int32) (j : Nat) (hj : j < 60) (ht : ∀ k, tw k < 262144) : Hm l yX8_laidFine cX8_laidFine 2 (some FieldType.int) 2 0 0 D T [.ref q, .int (nI j)] [(q, .inr (4, [.ref a1, .ref a2, .ref a3, .ref a4, .ref a5, .int (nI n0), .int nc, .int (bI ne), .int th])), (a1, .inl (T 0, 8, .inl (fun k => nI (yv k / 4)))), (a2, .inl (T 2, 8, .inl (fun k => bI (isE (yv k))))), (a3, .inl (T 2, 8, .inl (fun k => bI (isB (yv k))))), (a4, .inl (T 0, 60, .inl (fun k => nI (tw k / 4)))), (a5, .inl (T 2, 60, .inl (fun k => bI (isE (tw k)))))] (some (.int (nI (fN (eig (tw j)))))) (fun _ : Unit => [(q, .inr (4, [.ref a1, .ref a2, .ref a3, .ref a4, .ref a5, .int (nI n0), .int nc, .int (bI ne), .int th])), (a1, .inl (T 0, 8, .inl (fun k => nI (yv k / 4)))), (a2, .inl (T 2, 8, .inl (fun k => bI (isE (yv k))))), (a3, .inl (T 2, 8, .inl (fun k => bI (isB (yv k))))), (a4, .inl (T 0, 60, .inl (fun k => nI (tw k / 4)))), (a5, .inl (T 2, 60, .inl (fun k => bI (isE (tw k)))))]) := by
  refine Hm.of (by decide) (Nat.le_of_ble_eq_true rfl) ?_
  intro zp ze s zm args below zmeth zc hx hb hr hml hown hin hts hlocks A hA hP hK hD hS ls hl
  have hl : lv_has ls 2 [(0, .ref q), (1, .int (nI j))] := hl
  refine lv_aload_n hx hb dX8_laidFine_0 rfl (lv_at hl 0 rfl) ?_
  refine va_get (D := D) (ci := 4) (v := .ref a4) (C := RX8) (T := TX8) (N := 9) hx hb hts i_X8 hown hK hP 0 rfl rfl 3 (by decide) (hts _ u737) (fun _ h9 => h9) rfl dX8_laidFine_1 ?_
  refine lv_iload_n hx hb dX8_laidFine_4 rfl (lv_at hl 1 rfl) ?_
  refine za_iald hx hb hK hP 4 rfl j (rfl) (by omega) (by decide) dX8_laidFine_5 ?_
  refine lv_aload_n hx hb dX8_laidFine_6 rfl (lv_at hl 0 rfl) ?_
  refine va_get (D := D) (ci := 4) (v := .ref a5) (C := RX8) (T := TX8) (N := 9) hx hb hts i_X8 hown hK hP 0 rfl rfl 4 (by decide) (hts _ u738) (fun _ h9 => h9) rfl dX8_laidFine_7 ?_
  refine lv_iload_n hx hb dX8_laidFine_10 rfl (lv_at hl 1 rfl) ?_
  refine za_zald hx hb hK hP 5 rfl j (rfl) (by omega) (by decide) dX8_laidFine_11 ?_
  refine zp_call hx hb hml hown hts k_X8_35 (c_X8_eighthsOf l (nI (tw j / 4)) (isE (tw j))) ⟨by decide, by decide⟩ rfl hl.1 [] rfl (Nat.le_of_ble_eq_true rfl) dX8_laidFine_12 ⟨Nat.le_of_ble_eq_true rfl, Nat.le_of_ble_eq_true rfl⟩ ?_
  refine zf_i (x' := nI (eig (tw j))) (e8_c) ?_
  refine zp_call hx hb hml hown hts k_X8_47 (c_X8_fineOf l (eig (tw j)) (eig20 (ht j))) ⟨by decide, by decide⟩ rfl hl.1 [] rfl (Nat.le_of_ble_eq_true rfl) dX8_laidFine_15 ⟨Nat.le_of_ble_eq_true rfl, Nat.le_of_ble_eq_true rfl⟩ ?_
  exact zh_iret () hx hb hr hlocks dX8_laidFine_18 hP hD hS (rfl) (rfl)
set_option maxRecDepth 20000 in
theorem c_X8_height (l : Launch) (D : va_G) (T : Nat → ClassId) (q a1 a2 a3 a4 a5 : Nat) (yv tw : Nat → Nat) (n0 : Nat) (nc : Int32) (ne : Bool) (th : Int32) (hn : n0 ≤ 60) (ht : ∀ k, tw k < 262144) : Hm l yX8_height cX8_height 3 (some FieldType.int) 3 0 0 D T [.ref q] [(q, .inr (4, [.ref a1, .ref a2, .ref a3, .ref a4, .ref a5, .int (nI n0), .int nc, .int (bI ne), .int th])), (a1, .inl (T 0, 8, .inl (fun k => nI (yv k / 4)))), (a2, .inl (T 2, 8, .inl (fun k => bI (isE (yv k))))), (a3, .inl (T 2, 8, .inl (fun k => bI (isB (yv k))))), (a4, .inl (T 0, 60, .inl (fun k => nI (tw k / 4)))), (a5, .inl (T 2, 60, .inl (fun k => bI (isE (tw k)))))] (some (.int (nI (htN tw n0)))) (fun _ : Unit => [(q, .inr (4, [.ref a1, .ref a2, .ref a3, .ref a4, .ref a5, .int (nI n0), .int nc, .int (bI ne), .int th])), (a1, .inl (T 0, 8, .inl (fun k => nI (yv k / 4)))), (a2, .inl (T 2, 8, .inl (fun k => bI (isE (yv k))))), (a3, .inl (T 2, 8, .inl (fun k => bI (isB (yv k))))), (a4, .inl (T 0, 60, .inl (fun k => nI (tw k / 4)))), (a5, .inl (T 2, 60, .inl (fun k => bI (isE (tw k)))))]) := by
  refine Hm.of (by decide) (Nat.le_of_ble_eq_true rfl) ?_
  intro zp ze s zm args below zmeth zc hx hb hr hml hown hin hts hlocks A hA hP hK hD hS ls hl
  have hl : lv_has ls 3 [(0, .ref q)] := hl
  refine lv_iconst (v := 0) hx hb dX8_height_0 (by decide) ?_
  refine lv_istore_n (lv' := [(1, .int 0), (0, .ref q)]) hx hb dX8_height_1 rfl hl (by decide) rfl (fun ls hl => ?_)
  refine lv_iconst (v := 0) hx hb dX8_height_2 (by decide) ?_
  refine lv_istore_n (lv' := [(2, .int 0), (1, .int 0), (0, .ref q)]) hx hb dX8_height_3 rfl hl (by decide) rfl (fun ls hl => ?_)
  have lp : ∀ (n : Nat) (j : Nat), j + n = n0 → ∀ (H : Heap) (locs : List Loc), va_P D zcl [(q, .inr (4, [.ref a1, .ref a2, .ref a3, .ref a4, .ref a5, .int (nI n0), .int nc, .int (bI ne), .int th])), (a1, .inl (T 0, 8, .inl (fun k => nI (yv k / 4)))), (a2, .inl (T 2, 8, .inl (fun k => bI (isE (yv k))))), (a3, .inl (T 2, 8, .inl (fun k => bI (isB (yv k))))), (a4, .inl (T 0, 60, .inl (fun k => nI (tw k / 4)))), (a5, .inl (T 2, 60, .inl (fun k => bI (isE (tw k)))))] H → va_D A [(q, .inr (4, [.ref a1, .ref a2, .ref a3, .ref a4, .ref a5, .int (nI n0), .int nc, .int (bI ne), .int th])), (a1, .inl (T 0, 8, .inl (fun k => nI (yv k / 4)))), (a2, .inl (T 2, 8, .inl (fun k => bI (isE (yv k))))), (a3, .inl (T 2, 8, .inl (fun k => bI (isB (yv k))))), (a4, .inl (T 0, 60, .inl (fun k => nI (tw k / 4)))), (a5, .inl (T 2, 60, .inl (fun k => bI (isE (tw k)))))] → va_S A s.heap H locs → ∀ ls : Array Slot, lv_has ls 3 [(0, .ref q), (1, .int (nI (htN tw j))), (2, .int (nI j))] → W zp l ze (zR 3 0 0) s zm args below zmeth zc H locs 0 0 (MQ below (zQh D A (some (.int (nI (htN tw n0)))) (fun _ : Unit => [(q, .inr (4, [.ref a1, .ref a2, .ref a3, .ref a4, .ref a5, .int (nI n0), .int nc, .int (bI ne), .int th])), (a1, .inl (T 0, 8, .inl (fun k => nI (yv k / 4)))), (a2, .inl (T 2, 8, .inl (fun k => bI (isE (yv k))))), (a3, .inl (T 2, 8, .inl (fun k => bI (isB (yv k))))), (a4, .inl (T 0, 60, .inl (fun k => nI (tw k / 4)))), (a5, .inl (T 2, 60, .inl (fun k => bI (isE (tw k)))))])) args s 0 0 A) (F0 zm 4 ls []) := by
    intro n
    induction n with
    | zero =>
      intro j hj H locs hP hD hS ls hl
      have hjk : j = n0 := by omega
      refine lv_iload_n hx hb dX8_height_4 rfl (lv_at hl 2 rfl) ?_
      refine lv_aload_n hx hb dX8_height_5 rfl (lv_at hl 0 rfl) ?_
      refine va_get (D := D) (ci := 4) (v := .int (nI n0)) (C := RX8) (T := TX8) (N := 9) hx hb hts i_X8 hown hK hP 0 rfl rfl 5 (by decide) (hts _ u739) (fun _ h9 => h9) rfl dX8_height_6 ?_
      refine lv_icmp_ge (tgt := 26) hx hb dX8_height_9 (by decide) (fun h1 => ?_) (fun h1 => ?_)
      · refine lv_iload_n hx hb dX8_height_26 rfl (lv_at hl 1 rfl) ?_
        exact zh_iret () hx hb hr hlocks dX8_height_27 hP hD hS (by rw [hjk]) (rfl)
      · exact absurd (nI_le (by omega) (by omega)) h1
    | succ n ih =>
      intro j hj H locs hP hD hS ls hl
      refine lv_iload_n hx hb dX8_height_4 rfl (lv_at hl 2 rfl) ?_
      refine lv_aload_n hx hb dX8_height_5 rfl (lv_at hl 0 rfl) ?_
      refine va_get (D := D) (ci := 4) (v := .int (nI n0)) (C := RX8) (T := TX8) (N := 9) hx hb hts i_X8 hown hK hP 0 rfl rfl 5 (by decide) (hts _ u739) (fun _ h9 => h9) rfl dX8_height_6 ?_
      refine lv_icmp_ge (tgt := 26) hx hb dX8_height_9 (by decide) (fun h2 => ?_) (fun h2 => ?_)
      · exact absurd h2 (nI_ge (by omega) (by omega))
      · refine lv_iload_n hx hb dX8_height_12 rfl (lv_at hl 1 rfl) ?_
        refine lv_aload_n hx hb dX8_height_13 rfl (lv_at hl 0 rfl) ?_
        refine lv_iload_n hx hb dX8_height_14 rfl (lv_at hl 2 rfl) ?_
        refine zh_v (T := T) hx hb hml hown hts k_X8_103 (c_X8_laidFine l D T q a1 a2 a3 a4 a5 yv tw n0 nc ne th j (by omega) ht) ⟨by decide, by decide⟩ rfl hl.1 [.int (nI (htN tw j))] rfl (Nat.le_of_ble_eq_true rfl) dX8_height_15 ⟨Nat.le_of_ble_eq_true rfl, Nat.le_of_ble_eq_true rfl⟩ hK hP hD hS hA (ci := 4) rfl rfl rfl [0, 1, 2, 3, 4, 5] [] (wr := []) rfl rfl (by decide) (by decide) (by decide) [0, 1, 2, 3, 4, 5] (fun _ => [(q, .inr (4, [.ref a1, .ref a2, .ref a3, .ref a4, .ref a5, .int (nI n0), .int nc, .int (bI ne), .int th])), (a1, .inl (T 0, 8, .inl (fun k => nI (yv k / 4)))), (a2, .inl (T 2, 8, .inl (fun k => bI (isE (yv k))))), (a3, .inl (T 2, 8, .inl (fun k => bI (isB (yv k))))), (a4, .inl (T 0, 60, .inl (fun k => nI (tw k / 4)))), (a5, .inl (T 2, 60, .inl (fun k => bI (isE (tw k)))))]) (by decide) (fun _ => rfl) (fun _ H locs hP hD hS => ?_)
        have hP : va_P D zcl [(q, .inr (4, [.ref a1, .ref a2, .ref a3, .ref a4, .ref a5, .int (nI n0), .int nc, .int (bI ne), .int th])), (a1, .inl (T 0, 8, .inl (fun k => nI (yv k / 4)))), (a2, .inl (T 2, 8, .inl (fun k => bI (isE (yv k))))), (a3, .inl (T 2, 8, .inl (fun k => bI (isB (yv k))))), (a4, .inl (T 0, 60, .inl (fun k => nI (tw k / 4)))), (a5, .inl (T 2, 60, .inl (fun k => bI (isE (tw k)))))] H := hP
        have hD : va_D A [(q, .inr (4, [.ref a1, .ref a2, .ref a3, .ref a4, .ref a5, .int (nI n0), .int nc, .int (bI ne), .int th])), (a1, .inl (T 0, 8, .inl (fun k => nI (yv k / 4)))), (a2, .inl (T 2, 8, .inl (fun k => bI (isE (yv k))))), (a3, .inl (T 2, 8, .inl (fun k => bI (isB (yv k))))), (a4, .inl (T 0, 60, .inl (fun k => nI (tw k / 4)))), (a5, .inl (T 2, 60, .inl (fun k => bI (isE (tw k)))))] := hD
        refine lv_iadd hx hb dX8_height_18 ?_
        refine zf_i (x' := nI (htN tw (j + 1))) (nI_add _ _) ?_
        refine lv_istore_n (lv' := [(1, .int (nI (htN tw (j + 1)))), (0, .ref q), (2, .int (nI j))]) hx hb dX8_height_19 rfl hl (by decide) rfl (fun ls hl => ?_)
        refine lv_iinc (v := (nI (j + 1))) (lv' := [(2, .int (nI (j + 1))), (1, .int (nI (htN tw (j + 1)))), (0, .ref q)]) hx hb dX8_height_20 hl (k := 2) rfl (nI_1 j) (by decide) rfl (fun ls hl => ?_)
        refine lv_goto (tgt := 4) hx hb dX8_height_23 (by decide) ?_
        exact ih (j + 1) (by omega) _ _ hP hD hS ls (lv_sub hl [2, 1, 0] rfl)
  exact lp n0 0 (by omega) _ _ hP hD hS ls (lv_sub hl [2, 1, 0] rfl)
set_option maxRecDepth 20000 in
theorem c_X8_lay_ok (l : Launch) (D : va_G) (T : Nat → ClassId) (q a1 a2 a3 a4 a5 : Nat) (yv tw : Nat → Nat) (n0 : Nat) (nc : Int32) (ne : Bool) (th : Int32) (p : Nat) (hp : p < 8) (hv1 : isB (yv p) = false) (hc1 : 0 < yv p / 4) (hn : n0 < 60) (hy : ∀ k, yv k < 262144) (ht : ∀ k, tw k < 262144) : Hm l yX8_lay cX8_lay 2 (some FieldType.int) 4 0 0 D T [.ref q, .int (nI p)] [(q, .inr (4, [.ref a1, .ref a2, .ref a3, .ref a4, .ref a5, .int (nI n0), .int nc, .int (bI ne), .int th])), (a1, .inl (T 0, 8, .inl (fun k => nI (yv k / 4)))), (a2, .inl (T 2, 8, .inl (fun k => bI (isE (yv k))))), (a3, .inl (T 2, 8, .inl (fun k => bI (isB (yv k))))), (a4, .inl (T 0, 60, .inl (fun k => nI (tw k / 4)))), (a5, .inl (T 2, 60, .inl (fun k => bI (isE (tw k)))))] (some (.int (nI (htN (up tw n0 (yv p)) (n0 + 1))))) (fun _ : Unit => [(q, .inr (4, [.ref a1, .ref a2, .ref a3, .ref a4, .ref a5, .int (nI (n0 + 1)), .int nc, .int (bI ne), .int 0])), (a1, .inl (T 0, 8, .inl (fun k => nI (yv k / 4)))), (a2, .inl (T 2, 8, .inl (fun k => bI (isE (yv k))))), (a3, .inl (T 2, 8, .inl (fun k => bI (isB (yv k))))), (a4, .inl (T 0, 60, .inl (fun k => nI ((up tw n0 (yv p)) k / 4)))), (a5, .inl (T 2, 60, .inl (fun k => bI (isE ((up tw n0 (yv p)) k)))))]) := by
  refine Hm.of (by decide) (Nat.le_of_ble_eq_true rfl) ?_
  intro zp ze s zm args below zmeth zc hx hb hr hml hown hin hts hlocks A hA hP hK hD hS ls hl
  have hl : lv_has ls 2 [(0, .ref q), (1, .int (nI p))] := hl
  have h0 := hy p
  refine lv_aload_n hx hb dX8_lay_0 rfl (lv_at hl 0 rfl) ?_
  refine lv_iload_n hx hb dX8_lay_1 rfl (lv_at hl 1 rfl) ?_
  refine zp_call hx hb hml hown hts k_X8_30 (c_X8_is l (nI p)) ⟨by decide, by decide⟩ rfl hl.1 [.ref q] rfl (Nat.le_of_ble_eq_true rfl) dX8_lay_2 ⟨by decide, by decide⟩ ?_
  refine zb_ne (tgt := 12) hx hb dX8_lay_5 (by decide) (fun h1 => ?_) (fun h1 => ?_)
  · refine lv_aload_n hx hb dX8_lay_12 rfl (lv_at hl 0 rfl) ?_
    refine va_get (D := D) (ci := 4) (v := .ref a3) (C := RX8) (T := TX8) (N := 9) hx hb hts i_X8 hown hK hP 0 rfl rfl 2 (by decide) (hts _ u736) (fun _ h9 => h9) rfl dX8_lay_13 ?_
    refine lv_iload_n hx hb dX8_lay_16 rfl (lv_at hl 1 rfl) ?_
    refine za_zald hx hb hK hP 3 rfl p (rfl) (by omega) (by decide) dX8_lay_17 ?_
    refine zb_ne (tgt := 30) hx hb dX8_lay_18 (by decide) (fun h2 => ?_) (fun h2 => ?_)
    · exact absurd (hv1.symm.trans h2) (by decide)
    · refine lv_aload_n hx hb dX8_lay_21 rfl (lv_at hl 0 rfl) ?_
      refine va_get (D := D) (ci := 4) (v := .ref a1) (C := RX8) (T := TX8) (N := 9) hx hb hts i_X8 hown hK hP 0 rfl rfl 0 (by decide) (hts _ u734) (fun _ h9 => h9) rfl dX8_lay_22 ?_
      refine lv_iload_n hx hb dX8_lay_25 rfl (lv_at hl 1 rfl) ?_
      refine za_iald hx hb hK hP 1 rfl p (rfl) (by omega) (by decide) dX8_lay_26 ?_
      refine lv_if_ne (tgt := 34) hx hb dX8_lay_27 (by decide) (fun h3 => ?_) (fun h3 => ?_)
      · refine lv_aload_n hx hb dX8_lay_34 rfl (lv_at hl 0 rfl) ?_
        refine va_get (D := D) (ci := 4) (v := .int (nI n0)) (C := RX8) (T := TX8) (N := 9) hx hb hts i_X8 hown hK hP 0 rfl rfl 5 (by decide) (hts _ u739) (fun _ h9 => h9) rfl dX8_lay_35 ?_
        refine lv_bipush (v := 60) hx hb dX8_lay_38 (by decide) ?_
        refine lv_icmp_ne (tgt := 47) hx hb dX8_lay_40 (by decide) (fun h4 => ?_) (fun h4 => ?_)
        · refine lv_iconst (v := 0) hx hb dX8_lay_47 (by decide) ?_
          refine va_put (D := D) (ci := 4) (v := .int 0) (ty := .int) (C := RX8) (T := TX8) (N := 9) hx hb hts i_X8 tyX8 tyX8_ok nmX8 hown hK hP hD hS 0 rfl rfl 8 (by decide) (hts _ u742) (fun _ h9 => h9) rfl (by decide +kernel) rfl rfl (Nat.le_of_ble_eq_true rfl) dX8_lay_48 (fun H locs hP hD hS => ?_)
          have hP : va_P D zcl [(q, .inr (4, [.ref a1, .ref a2, .ref a3, .ref a4, .ref a5, .int (nI n0), .int nc, .int (bI ne), .int 0])), (a1, .inl (T 0, 8, .inl (fun k => nI (yv k / 4)))), (a2, .inl (T 2, 8, .inl (fun k => bI (isE (yv k))))), (a3, .inl (T 2, 8, .inl (fun k => bI (isB (yv k))))), (a4, .inl (T 0, 60, .inl (fun k => nI (tw k / 4)))), (a5, .inl (T 2, 60, .inl (fun k => bI (isE (tw k)))))] H := hP
          have hD : va_D A [(q, .inr (4, [.ref a1, .ref a2, .ref a3, .ref a4, .ref a5, .int (nI n0), .int nc, .int (bI ne), .int 0])), (a1, .inl (T 0, 8, .inl (fun k => nI (yv k / 4)))), (a2, .inl (T 2, 8, .inl (fun k => bI (isE (yv k))))), (a3, .inl (T 2, 8, .inl (fun k => bI (isB (yv k))))), (a4, .inl (T 0, 60, .inl (fun k => nI (tw k / 4)))), (a5, .inl (T 2, 60, .inl (fun k => bI (isE (tw k)))))] := hD
          refine lv_aload_n hx hb dX8_lay_51 rfl (lv_at hl 0 rfl) ?_
          refine va_get (D := D) (ci := 4) (v := .int 0) (C := RX8) (T := TX8) (N := 9) hx hb hts i_X8 hown hK hP 0 rfl rfl 8 (by decide) (hts _ u742) (fun _ h9 => h9) rfl dX8_lay_52 ?_
          refine lv_if_le (tgt := 60) hx hb dX8_lay_55 (by decide) (fun h5 => ?_) (fun h5 => ?_)
          · refine lv_aload_n hx hb dX8_lay_60 rfl (lv_at hl 0 rfl) ?_
            refine va_get (D := D) (ci := 4) (v := .ref a4) (C := RX8) (T := TX8) (N := 9) hx hb hts i_X8 hown hK hP 0 rfl rfl 3 (by decide) (hts _ u737) (fun _ h9 => h9) rfl dX8_lay_61 ?_
            refine lv_aload_n hx hb dX8_lay_64 rfl (lv_at hl 0 rfl) ?_
            refine va_get (D := D) (ci := 4) (v := .int (nI n0)) (C := RX8) (T := TX8) (N := 9) hx hb hts i_X8 hown hK hP 0 rfl rfl 5 (by decide) (hts _ u739) (fun _ h9 => h9) rfl dX8_lay_65 ?_
            refine lv_aload_n hx hb dX8_lay_68 rfl (lv_at hl 0 rfl) ?_
            refine va_get (D := D) (ci := 4) (v := .ref a1) (C := RX8) (T := TX8) (N := 9) hx hb hts i_X8 hown hK hP 0 rfl rfl 0 (by decide) (hts _ u734) (fun _ h9 => h9) rfl dX8_lay_69 ?_
            refine lv_iload_n hx hb dX8_lay_72 rfl (lv_at hl 1 rfl) ?_
            refine za_iald hx hb hK hP 1 rfl p (rfl) (by omega) (by decide) dX8_lay_73 ?_
            refine za_iast hx hb hK hP hD hS 4 rfl n0 (rfl) (by omega) (by decide) (fun k => nI (up tw n0 (yv p) k / 4)) (up_4 tw n0 (yv p)) dX8_lay_74 (fun H locs hP hD hS => ?_)
            have hP : va_P D zcl [(q, .inr (4, [.ref a1, .ref a2, .ref a3, .ref a4, .ref a5, .int (nI n0), .int nc, .int (bI ne), .int 0])), (a1, .inl (T 0, 8, .inl (fun k => nI (yv k / 4)))), (a2, .inl (T 2, 8, .inl (fun k => bI (isE (yv k))))), (a3, .inl (T 2, 8, .inl (fun k => bI (isB (yv k))))), (a4, .inl (T 0, 60, .inl (fun k => nI (up tw n0 (yv p) k / 4)))), (a5, .inl (T 2, 60, .inl (fun k => bI (isE (tw k)))))] H := hP
            have hD : va_D A [(q, .inr (4, [.ref a1, .ref a2, .ref a3, .ref a4, .ref a5, .int (nI n0), .int nc, .int (bI ne), .int 0])), (a1, .inl (T 0, 8, .inl (fun k => nI (yv k / 4)))), (a2, .inl (T 2, 8, .inl (fun k => bI (isE (yv k))))), (a3, .inl (T 2, 8, .inl (fun k => bI (isB (yv k))))), (a4, .inl (T 0, 60, .inl (fun k => nI (up tw n0 (yv p) k / 4)))), (a5, .inl (T 2, 60, .inl (fun k => bI (isE (tw k)))))] := hD
            refine lv_aload_n hx hb dX8_lay_75 rfl (lv_at hl 0 rfl) ?_
            refine va_get (D := D) (ci := 4) (v := .ref a5) (C := RX8) (T := TX8) (N := 9) hx hb hts i_X8 hown hK hP 0 rfl rfl 4 (by decide) (hts _ u738) (fun _ h9 => h9) rfl dX8_lay_76 ?_
            refine lv_aload_n hx hb dX8_lay_79 rfl (lv_at hl 0 rfl) ?_
            refine va_get (D := D) (ci := 4) (v := .int (nI n0)) (C := RX8) (T := TX8) (N := 9) hx hb hts i_X8 hown hK hP 0 rfl rfl 5 (by decide) (hts _ u739) (fun _ h9 => h9) rfl dX8_lay_80 ?_
            refine lv_aload_n hx hb dX8_lay_83 rfl (lv_at hl 0 rfl) ?_
            refine va_get (D := D) (ci := 4) (v := .ref a2) (C := RX8) (T := TX8) (N := 9) hx hb hts i_X8 hown hK hP 0 rfl rfl 1 (by decide) (hts _ u735) (fun _ h9 => h9) rfl dX8_lay_84 ?_
            refine lv_iload_n hx hb dX8_lay_87 rfl (lv_at hl 1 rfl) ?_
            refine za_zald hx hb hK hP 2 rfl p (rfl) (by omega) (by decide) dX8_lay_88 ?_
            refine za_zast hx hb hK hP hD hS 5 rfl n0 (rfl) (by omega) (by decide) (fun k => bI (isE (up tw n0 (yv p) k))) (up_5 tw n0 (yv p)) dX8_lay_89 (fun H locs hP hD hS => ?_)
            have hP : va_P D zcl [(q, .inr (4, [.ref a1, .ref a2, .ref a3, .ref a4, .ref a5, .int (nI n0), .int nc, .int (bI ne), .int 0])), (a1, .inl (T 0, 8, .inl (fun k => nI (yv k / 4)))), (a2, .inl (T 2, 8, .inl (fun k => bI (isE (yv k))))), (a3, .inl (T 2, 8, .inl (fun k => bI (isB (yv k))))), (a4, .inl (T 0, 60, .inl (fun k => nI (up tw n0 (yv p) k / 4)))), (a5, .inl (T 2, 60, .inl (fun k => bI (isE (up tw n0 (yv p) k)))))] H := hP
            have hD : va_D A [(q, .inr (4, [.ref a1, .ref a2, .ref a3, .ref a4, .ref a5, .int (nI n0), .int nc, .int (bI ne), .int 0])), (a1, .inl (T 0, 8, .inl (fun k => nI (yv k / 4)))), (a2, .inl (T 2, 8, .inl (fun k => bI (isE (yv k))))), (a3, .inl (T 2, 8, .inl (fun k => bI (isB (yv k))))), (a4, .inl (T 0, 60, .inl (fun k => nI (up tw n0 (yv p) k / 4)))), (a5, .inl (T 2, 60, .inl (fun k => bI (isE (up tw n0 (yv p) k)))))] := hD
            refine lv_aload_n hx hb dX8_lay_90 rfl (lv_at hl 0 rfl) ?_
            refine lv_dup hx hb dX8_lay_91 rfl ?_
            refine va_get (D := D) (ci := 4) (v := .int (nI n0)) (C := RX8) (T := TX8) (N := 9) hx hb hts i_X8 hown hK hP 0 rfl rfl 5 (by decide) (hts _ u739) (fun _ h9 => h9) rfl dX8_lay_92 ?_
            refine lv_iconst (v := 1) hx hb dX8_lay_95 (by decide) ?_
            refine lv_iadd hx hb dX8_lay_96 ?_
            refine zf_i (x' := nI (n0 + 1)) (nI_1 n0) ?_
            refine va_put (D := D) (ci := 4) (v := .int (nI (n0 + 1))) (ty := .int) (C := RX8) (T := TX8) (N := 9) hx hb hts i_X8 tyX8 tyX8_ok nmX8 hown hK hP hD hS 0 rfl rfl 5 (by decide) (hts _ u739) (fun _ h9 => h9) rfl (by decide +kernel) rfl rfl (Nat.le_of_ble_eq_true rfl) dX8_lay_97 (fun H locs hP hD hS => ?_)
            have hP : va_P D zcl [(q, .inr (4, [.ref a1, .ref a2, .ref a3, .ref a4, .ref a5, .int (nI (n0 + 1)), .int nc, .int (bI ne), .int 0])), (a1, .inl (T 0, 8, .inl (fun k => nI (yv k / 4)))), (a2, .inl (T 2, 8, .inl (fun k => bI (isE (yv k))))), (a3, .inl (T 2, 8, .inl (fun k => bI (isB (yv k))))), (a4, .inl (T 0, 60, .inl (fun k => nI (up tw n0 (yv p) k / 4)))), (a5, .inl (T 2, 60, .inl (fun k => bI (isE (up tw n0 (yv p) k)))))] H := hP
            have hD : va_D A [(q, .inr (4, [.ref a1, .ref a2, .ref a3, .ref a4, .ref a5, .int (nI (n0 + 1)), .int nc, .int (bI ne), .int 0])), (a1, .inl (T 0, 8, .inl (fun k => nI (yv k / 4)))), (a2, .inl (T 2, 8, .inl (fun k => bI (isE (yv k))))), (a3, .inl (T 2, 8, .inl (fun k => bI (isB (yv k))))), (a4, .inl (T 0, 60, .inl (fun k => nI (up tw n0 (yv p) k / 4)))), (a5, .inl (T 2, 60, .inl (fun k => bI (isE (up tw n0 (yv p) k)))))] := hD
            refine lv_aload_n hx hb dX8_lay_100 rfl (lv_at hl 0 rfl) ?_
            refine zh_v (T := T) hx hb hml hown hts k_X8_106 (c_X8_height l D T q a1 a2 a3 a4 a5 yv (up tw n0 (yv p)) (n0 + 1) nc ne 0 (by omega) (up_lt ht (hy p))) ⟨by decide, by decide⟩ rfl hl.1 [] rfl (Nat.le_of_ble_eq_true rfl) dX8_lay_101 ⟨Nat.le_of_ble_eq_true rfl, Nat.le_of_ble_eq_true rfl⟩ hK hP hD hS hA (ci := 4) rfl rfl rfl [0, 1, 2, 3, 4, 5] [] (wr := []) rfl rfl (by decide) (by decide) (by decide) [0, 1, 2, 3, 4, 5] (fun _ => [(q, .inr (4, [.ref a1, .ref a2, .ref a3, .ref a4, .ref a5, .int (nI (n0 + 1)), .int nc, .int (bI ne), .int 0])), (a1, .inl (T 0, 8, .inl (fun k => nI (yv k / 4)))), (a2, .inl (T 2, 8, .inl (fun k => bI (isE (yv k))))), (a3, .inl (T 2, 8, .inl (fun k => bI (isB (yv k))))), (a4, .inl (T 0, 60, .inl (fun k => nI (up tw n0 (yv p) k / 4)))), (a5, .inl (T 2, 60, .inl (fun k => bI (isE (up tw n0 (yv p) k)))))]) (by decide) (fun _ => rfl) (fun _ H locs hP hD hS => ?_)
            have hP : va_P D zcl [(q, .inr (4, [.ref a1, .ref a2, .ref a3, .ref a4, .ref a5, .int (nI (n0 + 1)), .int nc, .int (bI ne), .int 0])), (a1, .inl (T 0, 8, .inl (fun k => nI (yv k / 4)))), (a2, .inl (T 2, 8, .inl (fun k => bI (isE (yv k))))), (a3, .inl (T 2, 8, .inl (fun k => bI (isB (yv k))))), (a4, .inl (T 0, 60, .inl (fun k => nI (up tw n0 (yv p) k / 4)))), (a5, .inl (T 2, 60, .inl (fun k => bI (isE (up tw n0 (yv p) k)))))] H := hP
            have hD : va_D A [(q, .inr (4, [.ref a1, .ref a2, .ref a3, .ref a4, .ref a5, .int (nI (n0 + 1)), .int nc, .int (bI ne), .int 0])), (a1, .inl (T 0, 8, .inl (fun k => nI (yv k / 4)))), (a2, .inl (T 2, 8, .inl (fun k => bI (isE (yv k))))), (a3, .inl (T 2, 8, .inl (fun k => bI (isB (yv k))))), (a4, .inl (T 0, 60, .inl (fun k => nI (up tw n0 (yv p) k / 4)))), (a5, .inl (T 2, 60, .inl (fun k => bI (isE (up tw n0 (yv p) k)))))] := hD
            exact zh_iret () hx hb hr hlocks dX8_lay_104 hP hD hS (rfl) (rfl)
          · exact absurd h5 (by decide)
        · exact absurd h4 (fun q => absurd ((nI_eq (b := 60) (by omega) (by decide)).mp q) (by omega))
      · exact absurd h3 (nI_ne0 hc1 (by omega))
  · exact absurd ((is_ok hp).symm.trans h1) (by decide)
set_option maxRecDepth 20000 in
theorem c_X8_lay_no (l : Launch) (D : va_G) (T : Nat → ClassId) (q a1 a2 a3 a4 a5 : Nat) (yv tw : Nat → Nat) (n0 : Nat) (nc : Int32) (ne : Bool) (th : Int32) (x : Int32) (hx0 : m_X8_is x = false) : Hm l yX8_lay cX8_lay 2 (some FieldType.int) 4 0 0 D T [.ref q, .int x] [(q, .inr (4, [.ref a1, .ref a2, .ref a3, .ref a4, .ref a5, .int (nI n0), .int nc, .int (bI ne), .int th])), (a1, .inl (T 0, 8, .inl (fun k => nI (yv k / 4)))), (a2, .inl (T 2, 8, .inl (fun k => bI (isE (yv k))))), (a3, .inl (T 2, 8, .inl (fun k => bI (isB (yv k))))), (a4, .inl (T 0, 60, .inl (fun k => nI (tw k / 4)))), (a5, .inl (T 2, 60, .inl (fun k => bI (isE (tw k)))))] (some (.int 0)) (fun _ : Unit => [(q, .inr (4, [.ref a1, .ref a2, .ref a3, .ref a4, .ref a5, .int (nI n0), .int nc, .int (bI ne), .int 1])), (a1, .inl (T 0, 8, .inl (fun k => nI (yv k / 4)))), (a2, .inl (T 2, 8, .inl (fun k => bI (isE (yv k))))), (a3, .inl (T 2, 8, .inl (fun k => bI (isB (yv k))))), (a4, .inl (T 0, 60, .inl (fun k => nI (tw k / 4)))), (a5, .inl (T 2, 60, .inl (fun k => bI (isE (tw k)))))]) := by
  refine Hm.of (by decide) (Nat.le_of_ble_eq_true rfl) ?_
  intro zp ze s zm args below zmeth zc hx hb hr hml hown hin hts hlocks A hA hP hK hD hS ls hl
  have hl : lv_has ls 2 [(0, .ref q), (1, .int x)] := hl
  refine lv_aload_n hx hb dX8_lay_0 rfl (lv_at hl 0 rfl) ?_
  refine lv_iload_n hx hb dX8_lay_1 rfl (lv_at hl 1 rfl) ?_
  refine zp_call hx hb hml hown hts k_X8_30 (c_X8_is l x) ⟨by decide, by decide⟩ rfl hl.1 [.ref q] rfl (Nat.le_of_ble_eq_true rfl) dX8_lay_2 ⟨by decide, by decide⟩ ?_
  refine zb_ne (tgt := 12) hx hb dX8_lay_5 (by decide) (fun h1 => ?_) (fun h1 => ?_)
  · exact absurd (hx0.symm.trans h1) (by decide)
  · refine lv_iconst (v := 1) hx hb dX8_lay_8 (by decide) ?_
    refine lv_goto (tgt := 48) hx hb dX8_lay_9 (by decide) ?_
    refine va_put (D := D) (ci := 4) (v := .int 1) (ty := .int) (C := RX8) (T := TX8) (N := 9) hx hb hts i_X8 tyX8 tyX8_ok nmX8 hown hK hP hD hS 0 rfl rfl 8 (by decide) (hts _ u742) (fun _ h9 => h9) rfl (by decide +kernel) rfl rfl (Nat.le_of_ble_eq_true rfl) dX8_lay_48 (fun H locs hP hD hS => ?_)
    have hP : va_P D zcl [(q, .inr (4, [.ref a1, .ref a2, .ref a3, .ref a4, .ref a5, .int (nI n0), .int nc, .int (bI ne), .int 1])), (a1, .inl (T 0, 8, .inl (fun k => nI (yv k / 4)))), (a2, .inl (T 2, 8, .inl (fun k => bI (isE (yv k))))), (a3, .inl (T 2, 8, .inl (fun k => bI (isB (yv k))))), (a4, .inl (T 0, 60, .inl (fun k => nI (tw k / 4)))), (a5, .inl (T 2, 60, .inl (fun k => bI (isE (tw k)))))] H := hP
    have hD : va_D A [(q, .inr (4, [.ref a1, .ref a2, .ref a3, .ref a4, .ref a5, .int (nI n0), .int nc, .int (bI ne), .int 1])), (a1, .inl (T 0, 8, .inl (fun k => nI (yv k / 4)))), (a2, .inl (T 2, 8, .inl (fun k => bI (isE (yv k))))), (a3, .inl (T 2, 8, .inl (fun k => bI (isB (yv k))))), (a4, .inl (T 0, 60, .inl (fun k => nI (tw k / 4)))), (a5, .inl (T 2, 60, .inl (fun k => bI (isE (tw k)))))] := hD
    refine lv_aload_n hx hb dX8_lay_51 rfl (lv_at hl 0 rfl) ?_
    refine va_get (D := D) (ci := 4) (v := .int 1) (C := RX8) (T := TX8) (N := 9) hx hb hts i_X8 hown hK hP 0 rfl rfl 8 (by decide) (hts _ u742) (fun _ h9 => h9) rfl dX8_lay_52 ?_
    refine lv_if_le (tgt := 60) hx hb dX8_lay_55 (by decide) (fun h2 => ?_) (fun h2 => ?_)
    · exact absurd h2 (by decide)
    · refine lv_iconst (v := 0) hx hb dX8_lay_58 (by decide) ?_
      exact zh_iret () hx hb hr hlocks dX8_lay_59 hP hD hS (rfl) (rfl)
set_option maxRecDepth 20000 in
theorem c_X8_lay_zero (l : Launch) (D : va_G) (T : Nat → ClassId) (q a1 a2 a3 a4 a5 : Nat) (yv tw : Nat → Nat) (n0 : Nat) (nc : Int32) (ne : Bool) (th : Int32) (p : Nat) (hp : p < 8) (hv0 : ¬ (isB (yv p) = false ∧ ¬ yv p / 4 = 0)) : Hm l yX8_lay cX8_lay 2 (some FieldType.int) 4 0 0 D T [.ref q, .int (nI p)] [(q, .inr (4, [.ref a1, .ref a2, .ref a3, .ref a4, .ref a5, .int (nI n0), .int nc, .int (bI ne), .int th])), (a1, .inl (T 0, 8, .inl (fun k => nI (yv k / 4)))), (a2, .inl (T 2, 8, .inl (fun k => bI (isE (yv k))))), (a3, .inl (T 2, 8, .inl (fun k => bI (isB (yv k))))), (a4, .inl (T 0, 60, .inl (fun k => nI (tw k / 4)))), (a5, .inl (T 2, 60, .inl (fun k => bI (isE (tw k)))))] (some (.int 0)) (fun _ : Unit => [(q, .inr (4, [.ref a1, .ref a2, .ref a3, .ref a4, .ref a5, .int (nI n0), .int nc, .int (bI ne), .int 2])), (a1, .inl (T 0, 8, .inl (fun k => nI (yv k / 4)))), (a2, .inl (T 2, 8, .inl (fun k => bI (isE (yv k))))), (a3, .inl (T 2, 8, .inl (fun k => bI (isB (yv k))))), (a4, .inl (T 0, 60, .inl (fun k => nI (tw k / 4)))), (a5, .inl (T 2, 60, .inl (fun k => bI (isE (tw k)))))]) := by
  refine Hm.of (by decide) (Nat.le_of_ble_eq_true rfl) ?_
  intro zp ze s zm args below zmeth zc hx hb hr hml hown hin hts hlocks A hA hP hK hD hS ls hl
  have hl : lv_has ls 2 [(0, .ref q), (1, .int (nI p))] := hl
  refine lv_aload_n hx hb dX8_lay_0 rfl (lv_at hl 0 rfl) ?_
  refine lv_iload_n hx hb dX8_lay_1 rfl (lv_at hl 1 rfl) ?_
  refine zp_call hx hb hml hown hts k_X8_30 (c_X8_is l (nI p)) ⟨by decide, by decide⟩ rfl hl.1 [.ref q] rfl (Nat.le_of_ble_eq_true rfl) dX8_lay_2 ⟨by decide, by decide⟩ ?_
  refine zb_ne (tgt := 12) hx hb dX8_lay_5 (by decide) (fun h1 => ?_) (fun h1 => ?_)
  · refine lv_aload_n hx hb dX8_lay_12 rfl (lv_at hl 0 rfl) ?_
    refine va_get (D := D) (ci := 4) (v := .ref a3) (C := RX8) (T := TX8) (N := 9) hx hb hts i_X8 hown hK hP 0 rfl rfl 2 (by decide) (hts _ u736) (fun _ h9 => h9) rfl dX8_lay_13 ?_
    refine lv_iload_n hx hb dX8_lay_16 rfl (lv_at hl 1 rfl) ?_
    refine za_zald hx hb hK hP 3 rfl p (rfl) (by omega) (by decide) dX8_lay_17 ?_
    refine zb_ne (tgt := 30) hx hb dX8_lay_18 (by decide) (fun h2 => ?_) (fun h2 => ?_)
    · refine lv_iconst (v := 2) hx hb dX8_lay_30 (by decide) ?_
      refine lv_goto (tgt := 48) hx hb dX8_lay_31 (by decide) ?_
      refine va_put (D := D) (ci := 4) (v := .int 2) (ty := .int) (C := RX8) (T := TX8) (N := 9) hx hb hts i_X8 tyX8 tyX8_ok nmX8 hown hK hP hD hS 0 rfl rfl 8 (by decide) (hts _ u742) (fun _ h9 => h9) rfl (by decide +kernel) rfl rfl (Nat.le_of_ble_eq_true rfl) dX8_lay_48 (fun H locs hP hD hS => ?_)
      have hP : va_P D zcl [(q, .inr (4, [.ref a1, .ref a2, .ref a3, .ref a4, .ref a5, .int (nI n0), .int nc, .int (bI ne), .int 2])), (a1, .inl (T 0, 8, .inl (fun k => nI (yv k / 4)))), (a2, .inl (T 2, 8, .inl (fun k => bI (isE (yv k))))), (a3, .inl (T 2, 8, .inl (fun k => bI (isB (yv k))))), (a4, .inl (T 0, 60, .inl (fun k => nI (tw k / 4)))), (a5, .inl (T 2, 60, .inl (fun k => bI (isE (tw k)))))] H := hP
      have hD : va_D A [(q, .inr (4, [.ref a1, .ref a2, .ref a3, .ref a4, .ref a5, .int (nI n0), .int nc, .int (bI ne), .int 2])), (a1, .inl (T 0, 8, .inl (fun k => nI (yv k / 4)))), (a2, .inl (T 2, 8, .inl (fun k => bI (isE (yv k))))), (a3, .inl (T 2, 8, .inl (fun k => bI (isB (yv k))))), (a4, .inl (T 0, 60, .inl (fun k => nI (tw k / 4)))), (a5, .inl (T 2, 60, .inl (fun k => bI (isE (tw k)))))] := hD
      refine lv_aload_n hx hb dX8_lay_51 rfl (lv_at hl 0 rfl) ?_
      refine va_get (D := D) (ci := 4) (v := .int 2) (C := RX8) (T := TX8) (N := 9) hx hb hts i_X8 hown hK hP 0 rfl rfl 8 (by decide) (hts _ u742) (fun _ h9 => h9) rfl dX8_lay_52 ?_
      refine lv_if_le (tgt := 60) hx hb dX8_lay_55 (by decide) (fun h3 => ?_) (fun h3 => ?_)
      · exact absurd h3 (by decide)
      · refine lv_iconst (v := 0) hx hb dX8_lay_58 (by decide) ?_
        exact zh_iret () hx hb hr hlocks dX8_lay_59 hP hD hS (rfl) (rfl)
    · refine lv_aload_n hx hb dX8_lay_21 rfl (lv_at hl 0 rfl) ?_
      refine va_get (D := D) (ci := 4) (v := .ref a1) (C := RX8) (T := TX8) (N := 9) hx hb hts i_X8 hown hK hP 0 rfl rfl 0 (by decide) (hts _ u734) (fun _ h9 => h9) rfl dX8_lay_22 ?_
      refine lv_iload_n hx hb dX8_lay_25 rfl (lv_at hl 1 rfl) ?_
      refine za_iald hx hb hK hP 1 rfl p (rfl) (by omega) (by decide) dX8_lay_26 ?_
      refine lv_if_ne (tgt := 34) hx hb dX8_lay_27 (by decide) (fun h4 => ?_) (fun h4 => ?_)
      · exact absurd ⟨h2, fun q => h4 (by rw [q]; rfl)⟩ hv0
      · refine lv_iconst (v := 2) hx hb dX8_lay_30 (by decide) ?_
        refine lv_goto (tgt := 48) hx hb dX8_lay_31 (by decide) ?_
        refine va_put (D := D) (ci := 4) (v := .int 2) (ty := .int) (C := RX8) (T := TX8) (N := 9) hx hb hts i_X8 tyX8 tyX8_ok nmX8 hown hK hP hD hS 0 rfl rfl 8 (by decide) (hts _ u742) (fun _ h9 => h9) rfl (by decide +kernel) rfl rfl (Nat.le_of_ble_eq_true rfl) dX8_lay_48 (fun H locs hP hD hS => ?_)
        have hP : va_P D zcl [(q, .inr (4, [.ref a1, .ref a2, .ref a3, .ref a4, .ref a5, .int (nI n0), .int nc, .int (bI ne), .int 2])), (a1, .inl (T 0, 8, .inl (fun k => nI (yv k / 4)))), (a2, .inl (T 2, 8, .inl (fun k => bI (isE (yv k))))), (a3, .inl (T 2, 8, .inl (fun k => bI (isB (yv k))))), (a4, .inl (T 0, 60, .inl (fun k => nI (tw k / 4)))), (a5, .inl (T 2, 60, .inl (fun k => bI (isE (tw k)))))] H := hP
        have hD : va_D A [(q, .inr (4, [.ref a1, .ref a2, .ref a3, .ref a4, .ref a5, .int (nI n0), .int nc, .int (bI ne), .int 2])), (a1, .inl (T 0, 8, .inl (fun k => nI (yv k / 4)))), (a2, .inl (T 2, 8, .inl (fun k => bI (isE (yv k))))), (a3, .inl (T 2, 8, .inl (fun k => bI (isB (yv k))))), (a4, .inl (T 0, 60, .inl (fun k => nI (tw k / 4)))), (a5, .inl (T 2, 60, .inl (fun k => bI (isE (tw k)))))] := hD
        refine lv_aload_n hx hb dX8_lay_51 rfl (lv_at hl 0 rfl) ?_
        refine va_get (D := D) (ci := 4) (v := .int 2) (C := RX8) (T := TX8) (N := 9) hx hb hts i_X8 hown hK hP 0 rfl rfl 8 (by decide) (hts _ u742) (fun _ h9 => h9) rfl dX8_lay_52 ?_
        refine lv_if_le (tgt := 60) hx hb dX8_lay_55 (by decide) (fun h5 => ?_) (fun h5 => ?_)
        · exact absurd h5 (by decide)
        · refine lv_iconst (v := 0) hx hb dX8_lay_58 (by decide) ?_
          exact zh_iret () hx hb hr hlocks dX8_lay_59 hP hD hS (rfl) (rfl)
  · exact absurd ((is_ok hp).symm.trans h1) (by decide)
set_option maxRecDepth 20000 in
theorem c_X8_lay_full (l : Launch) (D : va_G) (T : Nat → ClassId) (q a1 a2 a3 a4 a5 : Nat) (yv tw : Nat → Nat) (n0 : Nat) (nc : Int32) (ne : Bool) (th : Int32) (p : Nat) (hp : p < 8) (hv1 : isB (yv p) = false) (hc1 : 0 < yv p / 4) (hn : n0 = 60) (hy : ∀ k, yv k < 262144) : Hm l yX8_lay cX8_lay 2 (some FieldType.int) 4 0 0 D T [.ref q, .int (nI p)] [(q, .inr (4, [.ref a1, .ref a2, .ref a3, .ref a4, .ref a5, .int (nI n0), .int nc, .int (bI ne), .int th])), (a1, .inl (T 0, 8, .inl (fun k => nI (yv k / 4)))), (a2, .inl (T 2, 8, .inl (fun k => bI (isE (yv k))))), (a3, .inl (T 2, 8, .inl (fun k => bI (isB (yv k))))), (a4, .inl (T 0, 60, .inl (fun k => nI (tw k / 4)))), (a5, .inl (T 2, 60, .inl (fun k => bI (isE (tw k)))))] (some (.int 0)) (fun _ : Unit => [(q, .inr (4, [.ref a1, .ref a2, .ref a3, .ref a4, .ref a5, .int (nI n0), .int nc, .int (bI ne), .int 3])), (a1, .inl (T 0, 8, .inl (fun k => nI (yv k / 4)))), (a2, .inl (T 2, 8, .inl (fun k => bI (isE (yv k))))), (a3, .inl (T 2, 8, .inl (fun k => bI (isB (yv k))))), (a4, .inl (T 0, 60, .inl (fun k => nI (tw k / 4)))), (a5, .inl (T 2, 60, .inl (fun k => bI (isE (tw k)))))]) := by
  refine Hm.of (by decide) (Nat.le_of_ble_eq_true rfl) ?_
  intro zp ze s zm args below zmeth zc hx hb hr hml hown hin hts hlocks A hA hP hK hD hS ls hl
  have hl : lv_has ls 2 [(0, .ref q), (1, .int (nI p))] := hl
  have h0 := hy p
  refine lv_aload_n hx hb dX8_lay_0 rfl (lv_at hl 0 rfl) ?_
  refine lv_iload_n hx hb dX8_lay_1 rfl (lv_at hl 1 rfl) ?_
  refine zp_call hx hb hml hown hts k_X8_30 (c_X8_is l (nI p)) ⟨by decide, by decide⟩ rfl hl.1 [.ref q] rfl (Nat.le_of_ble_eq_true rfl) dX8_lay_2 ⟨by decide, by decide⟩ ?_
  refine zb_ne (tgt := 12) hx hb dX8_lay_5 (by decide) (fun h1 => ?_) (fun h1 => ?_)
  · refine lv_aload_n hx hb dX8_lay_12 rfl (lv_at hl 0 rfl) ?_
    refine va_get (D := D) (ci := 4) (v := .ref a3) (C := RX8) (T := TX8) (N := 9) hx hb hts i_X8 hown hK hP 0 rfl rfl 2 (by decide) (hts _ u736) (fun _ h9 => h9) rfl dX8_lay_13 ?_
    refine lv_iload_n hx hb dX8_lay_16 rfl (lv_at hl 1 rfl) ?_
    refine za_zald hx hb hK hP 3 rfl p (rfl) (by omega) (by decide) dX8_lay_17 ?_
    refine zb_ne (tgt := 30) hx hb dX8_lay_18 (by decide) (fun h2 => ?_) (fun h2 => ?_)
    · exact absurd (hv1.symm.trans h2) (by decide)
    · refine lv_aload_n hx hb dX8_lay_21 rfl (lv_at hl 0 rfl) ?_
      refine va_get (D := D) (ci := 4) (v := .ref a1) (C := RX8) (T := TX8) (N := 9) hx hb hts i_X8 hown hK hP 0 rfl rfl 0 (by decide) (hts _ u734) (fun _ h9 => h9) rfl dX8_lay_22 ?_
      refine lv_iload_n hx hb dX8_lay_25 rfl (lv_at hl 1 rfl) ?_
      refine za_iald hx hb hK hP 1 rfl p (rfl) (by omega) (by decide) dX8_lay_26 ?_
      refine lv_if_ne (tgt := 34) hx hb dX8_lay_27 (by decide) (fun h3 => ?_) (fun h3 => ?_)
      · refine lv_aload_n hx hb dX8_lay_34 rfl (lv_at hl 0 rfl) ?_
        refine va_get (D := D) (ci := 4) (v := .int (nI n0)) (C := RX8) (T := TX8) (N := 9) hx hb hts i_X8 hown hK hP 0 rfl rfl 5 (by decide) (hts _ u739) (fun _ h9 => h9) rfl dX8_lay_35 ?_
        refine lv_bipush (v := 60) hx hb dX8_lay_38 (by decide) ?_
        refine lv_icmp_ne (tgt := 47) hx hb dX8_lay_40 (by decide) (fun h4 => ?_) (fun h4 => ?_)
        · exact absurd (show nI n0 = 60 by rw [hn]; rfl) h4
        · refine lv_iconst (v := 3) hx hb dX8_lay_43 (by decide) ?_
          refine lv_goto (tgt := 48) hx hb dX8_lay_44 (by decide) ?_
          refine va_put (D := D) (ci := 4) (v := .int 3) (ty := .int) (C := RX8) (T := TX8) (N := 9) hx hb hts i_X8 tyX8 tyX8_ok nmX8 hown hK hP hD hS 0 rfl rfl 8 (by decide) (hts _ u742) (fun _ h9 => h9) rfl (by decide +kernel) rfl rfl (Nat.le_of_ble_eq_true rfl) dX8_lay_48 (fun H locs hP hD hS => ?_)
          have hP : va_P D zcl [(q, .inr (4, [.ref a1, .ref a2, .ref a3, .ref a4, .ref a5, .int (nI n0), .int nc, .int (bI ne), .int 3])), (a1, .inl (T 0, 8, .inl (fun k => nI (yv k / 4)))), (a2, .inl (T 2, 8, .inl (fun k => bI (isE (yv k))))), (a3, .inl (T 2, 8, .inl (fun k => bI (isB (yv k))))), (a4, .inl (T 0, 60, .inl (fun k => nI (tw k / 4)))), (a5, .inl (T 2, 60, .inl (fun k => bI (isE (tw k)))))] H := hP
          have hD : va_D A [(q, .inr (4, [.ref a1, .ref a2, .ref a3, .ref a4, .ref a5, .int (nI n0), .int nc, .int (bI ne), .int 3])), (a1, .inl (T 0, 8, .inl (fun k => nI (yv k / 4)))), (a2, .inl (T 2, 8, .inl (fun k => bI (isE (yv k))))), (a3, .inl (T 2, 8, .inl (fun k => bI (isB (yv k))))), (a4, .inl (T 0, 60, .inl (fun k => nI (tw k / 4)))), (a5, .inl (T 2, 60, .inl (fun k => bI (isE (tw k)))))] := hD
          refine lv_aload_n hx hb dX8_lay_51 rfl (lv_at hl 0 rfl) ?_
          refine va_get (D := D) (ci := 4) (v := .int 3) (C := RX8) (T := TX8) (N := 9) hx hb hts i_X8 hown hK hP 0 rfl rfl 8 (by decide) (hts _ u742) (fun _ h9 => h9) rfl dX8_lay_52 ?_
          refine lv_if_le (tgt := 60) hx hb dX8_lay_55 (by decide) (fun h5 => ?_) (fun h5 => ?_)
          · exact absurd h5 (by decide)
          · refine lv_iconst (v := 0) hx hb dX8_lay_58 (by decide) ?_
            exact zh_iret () hx hb hr hlocks dX8_lay_59 hP hD hS (rfl) (rfl)
      · exact absurd h3 (nI_ne0 hc1 (by omega))
  · exact absurd ((is_ok hp).symm.trans h1) (by decide)
set_option maxRecDepth 20000 in
theorem c_X8_lift_ok (l : Launch) (D : va_G) (T : Nat → ClassId) (q a1 a2 a3 a4 a5 : Nat) (yv tw : Nat → Nat) (n0 : Nat) (nc : Int32) (ne : Bool) (th : Int32) (p : Nat) (hp : p < 8) (n1 : Nat) (hn : n1 < 60) (hv : isB (tw n1) = false) (ht : ∀ k, tw k < 262144) : Hm l yX8_lift cX8_lift 2 (some FieldType.int) 4 0 0 D T [.ref q, .int (nI p)] [(q, .inr (4, [.ref a1, .ref a2, .ref a3, .ref a4, .ref a5, .int (nI (n1 + 1)), .int nc, .int (bI ne), .int th])), (a1, .inl (T 0, 8, .inl (fun k => nI (yv k / 4)))), (a2, .inl (T 2, 8, .inl (fun k => bI (isE (yv k))))), (a3, .inl (T 2, 8, .inl (fun k => bI (isB (yv k))))), (a4, .inl (T 0, 60, .inl (fun k => nI (tw k / 4)))), (a5, .inl (T 2, 60, .inl (fun k => bI (isE (tw k)))))] (some (.int (nI (htN tw n1)))) (fun _ : Unit => [(q, .inr (4, [.ref a1, .ref a2, .ref a3, .ref a4, .ref a5, .int (nI n1), .int nc, .int (bI ne), .int 0])), (a1, .inl (T 0, 8, .inl (fun k => nI ((up yv p (tw n1)) k / 4)))), (a2, .inl (T 2, 8, .inl (fun k => bI (isE ((up yv p (tw n1)) k))))), (a3, .inl (T 2, 8, .inl (fun k => bI (isB ((up yv p (tw n1)) k))))), (a4, .inl (T 0, 60, .inl (fun k => nI (tw k / 4)))), (a5, .inl (T 2, 60, .inl (fun k => bI (isE (tw k)))))]) := by
  refine Hm.of (by decide) (Nat.le_of_ble_eq_true rfl) ?_
  intro zp ze s zm args below zmeth zc hx hb hr hml hown hin hts hlocks A hA hP hK hD hS ls hl
  have hl : lv_has ls 2 [(0, .ref q), (1, .int (nI p))] := hl
  refine lv_aload_n hx hb dX8_lift_0 rfl (lv_at hl 0 rfl) ?_
  refine lv_iload_n hx hb dX8_lift_1 rfl (lv_at hl 1 rfl) ?_
  refine zp_call hx hb hml hown hts k_X8_30 (c_X8_is l (nI p)) ⟨by decide, by decide⟩ rfl hl.1 [.ref q] rfl (Nat.le_of_ble_eq_true rfl) dX8_lift_2 ⟨by decide, by decide⟩ ?_
  refine zb_ne (tgt := 12) hx hb dX8_lift_5 (by decide) (fun h1 => ?_) (fun h1 => ?_)
  · refine lv_aload_n hx hb dX8_lift_12 rfl (lv_at hl 0 rfl) ?_
    refine va_get (D := D) (ci := 4) (v := .int (nI (n1 + 1))) (C := RX8) (T := TX8) (N := 9) hx hb hts i_X8 hown hK hP 0 rfl rfl 5 (by decide) (hts _ u739) (fun _ h9 => h9) rfl dX8_lift_13 ?_
    refine lv_if_ne (tgt := 23) hx hb dX8_lift_16 (by decide) (fun h2 => ?_) (fun h2 => ?_)
    · refine lv_iconst (v := 0) hx hb dX8_lift_23 (by decide) ?_
      refine va_put (D := D) (ci := 4) (v := .int 0) (ty := .int) (C := RX8) (T := TX8) (N := 9) hx hb hts i_X8 tyX8 tyX8_ok nmX8 hown hK hP hD hS 0 rfl rfl 8 (by decide) (hts _ u742) (fun _ h9 => h9) rfl (by decide +kernel) rfl rfl (Nat.le_of_ble_eq_true rfl) dX8_lift_24 (fun H locs hP hD hS => ?_)
      have hP : va_P D zcl [(q, .inr (4, [.ref a1, .ref a2, .ref a3, .ref a4, .ref a5, .int (nI (n1 + 1)), .int nc, .int (bI ne), .int 0])), (a1, .inl (T 0, 8, .inl (fun k => nI (yv k / 4)))), (a2, .inl (T 2, 8, .inl (fun k => bI (isE (yv k))))), (a3, .inl (T 2, 8, .inl (fun k => bI (isB (yv k))))), (a4, .inl (T 0, 60, .inl (fun k => nI (tw k / 4)))), (a5, .inl (T 2, 60, .inl (fun k => bI (isE (tw k)))))] H := hP
      have hD : va_D A [(q, .inr (4, [.ref a1, .ref a2, .ref a3, .ref a4, .ref a5, .int (nI (n1 + 1)), .int nc, .int (bI ne), .int 0])), (a1, .inl (T 0, 8, .inl (fun k => nI (yv k / 4)))), (a2, .inl (T 2, 8, .inl (fun k => bI (isE (yv k))))), (a3, .inl (T 2, 8, .inl (fun k => bI (isB (yv k))))), (a4, .inl (T 0, 60, .inl (fun k => nI (tw k / 4)))), (a5, .inl (T 2, 60, .inl (fun k => bI (isE (tw k)))))] := hD
      refine lv_aload_n hx hb dX8_lift_27 rfl (lv_at hl 0 rfl) ?_
      refine va_get (D := D) (ci := 4) (v := .int 0) (C := RX8) (T := TX8) (N := 9) hx hb hts i_X8 hown hK hP 0 rfl rfl 8 (by decide) (hts _ u742) (fun _ h9 => h9) rfl dX8_lift_28 ?_
      refine lv_if_le (tgt := 36) hx hb dX8_lift_31 (by decide) (fun h3 => ?_) (fun h3 => ?_)
      · refine lv_aload_n hx hb dX8_lift_36 rfl (lv_at hl 0 rfl) ?_
        refine lv_dup hx hb dX8_lift_37 rfl ?_
        refine va_get (D := D) (ci := 4) (v := .int (nI (n1 + 1))) (C := RX8) (T := TX8) (N := 9) hx hb hts i_X8 hown hK hP 0 rfl rfl 5 (by decide) (hts _ u739) (fun _ h9 => h9) rfl dX8_lift_38 ?_
        refine lv_iconst (v := 1) hx hb dX8_lift_41 (by decide) ?_
        refine lv_isub hx hb dX8_lift_42 ?_
        refine zf_i (x' := nI n1) (nI_pred n1) ?_
        refine va_put (D := D) (ci := 4) (v := .int (nI n1)) (ty := .int) (C := RX8) (T := TX8) (N := 9) hx hb hts i_X8 tyX8 tyX8_ok nmX8 hown hK hP hD hS 0 rfl rfl 5 (by decide) (hts _ u739) (fun _ h9 => h9) rfl (by decide +kernel) rfl rfl (Nat.le_of_ble_eq_true rfl) dX8_lift_43 (fun H locs hP hD hS => ?_)
        have hP : va_P D zcl [(q, .inr (4, [.ref a1, .ref a2, .ref a3, .ref a4, .ref a5, .int (nI n1), .int nc, .int (bI ne), .int 0])), (a1, .inl (T 0, 8, .inl (fun k => nI (yv k / 4)))), (a2, .inl (T 2, 8, .inl (fun k => bI (isE (yv k))))), (a3, .inl (T 2, 8, .inl (fun k => bI (isB (yv k))))), (a4, .inl (T 0, 60, .inl (fun k => nI (tw k / 4)))), (a5, .inl (T 2, 60, .inl (fun k => bI (isE (tw k)))))] H := hP
        have hD : va_D A [(q, .inr (4, [.ref a1, .ref a2, .ref a3, .ref a4, .ref a5, .int (nI n1), .int nc, .int (bI ne), .int 0])), (a1, .inl (T 0, 8, .inl (fun k => nI (yv k / 4)))), (a2, .inl (T 2, 8, .inl (fun k => bI (isE (yv k))))), (a3, .inl (T 2, 8, .inl (fun k => bI (isB (yv k))))), (a4, .inl (T 0, 60, .inl (fun k => nI (tw k / 4)))), (a5, .inl (T 2, 60, .inl (fun k => bI (isE (tw k)))))] := hD
        refine lv_aload_n hx hb dX8_lift_46 rfl (lv_at hl 0 rfl) ?_
        refine lv_iload_n hx hb dX8_lift_47 rfl (lv_at hl 1 rfl) ?_
        refine lv_aload_n hx hb dX8_lift_48 rfl (lv_at hl 0 rfl) ?_
        refine va_get (D := D) (ci := 4) (v := .ref a4) (C := RX8) (T := TX8) (N := 9) hx hb hts i_X8 hown hK hP 0 rfl rfl 3 (by decide) (hts _ u737) (fun _ h9 => h9) rfl dX8_lift_49 ?_
        refine lv_aload_n hx hb dX8_lift_52 rfl (lv_at hl 0 rfl) ?_
        refine va_get (D := D) (ci := 4) (v := .int (nI n1)) (C := RX8) (T := TX8) (N := 9) hx hb hts i_X8 hown hK hP 0 rfl rfl 5 (by decide) (hts _ u739) (fun _ h9 => h9) rfl dX8_lift_53 ?_
        refine za_iald hx hb hK hP 4 rfl n1 (rfl) (by omega) (by decide) dX8_lift_56 ?_
        refine lv_aload_n hx hb dX8_lift_57 rfl (lv_at hl 0 rfl) ?_
        refine va_get (D := D) (ci := 4) (v := .ref a5) (C := RX8) (T := TX8) (N := 9) hx hb hts i_X8 hown hK hP 0 rfl rfl 4 (by decide) (hts _ u738) (fun _ h9 => h9) rfl dX8_lift_58 ?_
        refine lv_aload_n hx hb dX8_lift_61 rfl (lv_at hl 0 rfl) ?_
        refine va_get (D := D) (ci := 4) (v := .int (nI n1)) (C := RX8) (T := TX8) (N := 9) hx hb hts i_X8 hown hK hP 0 rfl rfl 5 (by decide) (hts _ u739) (fun _ h9 => h9) rfl dX8_lift_62 ?_
        refine za_zald hx hb hK hP 5 rfl n1 (rfl) (by omega) (by decide) dX8_lift_65 ?_
        refine lv_iconst (v := 0) hx hb dX8_lift_66 (by decide) ?_
        refine zh_v (T := T) hx hb hml hown hts k_X8_62 (c_X8_write l D T q a1 a2 a3 a4 a5 yv tw n1 nc ne 0 p hp (tw n1 / 4) (isE (tw n1)) false) ⟨by decide, by decide⟩ rfl hl.1 [] rfl (Nat.le_of_ble_eq_true rfl) dX8_lift_67 ⟨Nat.le_of_ble_eq_true rfl, Nat.le_of_ble_eq_true rfl⟩ hK hP hD hS hA (ci := 4) rfl rfl rfl [0, 1, 2, 3, 4, 5] [] (wr := []) rfl rfl (by decide) (by decide) (by decide) [0, 1, 2, 3, 4, 5] (fun _ => [(q, .inr (4, [.ref a1, .ref a2, .ref a3, .ref a4, .ref a5, .int (nI n1), .int nc, .int (bI ne), .int 0])), (a1, .inl (T 0, 8, .inl (fun k => nI ((up yv p (mk (tw n1 / 4) (isE (tw n1)) false)) k / 4)))), (a2, .inl (T 2, 8, .inl (fun k => bI (isE ((up yv p (mk (tw n1 / 4) (isE (tw n1)) false)) k))))), (a3, .inl (T 2, 8, .inl (fun k => bI (isB ((up yv p (mk (tw n1 / 4) (isE (tw n1)) false)) k))))), (a4, .inl (T 0, 60, .inl (fun k => nI (tw k / 4)))), (a5, .inl (T 2, 60, .inl (fun k => bI (isE (tw k)))))]) (by decide) (fun _ => rfl) (fun _ H locs hP hD hS => ?_)
        have hP : va_P D zcl [(q, .inr (4, [.ref a1, .ref a2, .ref a3, .ref a4, .ref a5, .int (nI n1), .int nc, .int (bI ne), .int 0])), (a1, .inl (T 0, 8, .inl (fun k => nI ((up yv p (mk (tw n1 / 4) (isE (tw n1)) false)) k / 4)))), (a2, .inl (T 2, 8, .inl (fun k => bI (isE ((up yv p (mk (tw n1 / 4) (isE (tw n1)) false)) k))))), (a3, .inl (T 2, 8, .inl (fun k => bI (isB ((up yv p (mk (tw n1 / 4) (isE (tw n1)) false)) k))))), (a4, .inl (T 0, 60, .inl (fun k => nI (tw k / 4)))), (a5, .inl (T 2, 60, .inl (fun k => bI (isE (tw k)))))] H := hP
        have hD : va_D A [(q, .inr (4, [.ref a1, .ref a2, .ref a3, .ref a4, .ref a5, .int (nI n1), .int nc, .int (bI ne), .int 0])), (a1, .inl (T 0, 8, .inl (fun k => nI ((up yv p (mk (tw n1 / 4) (isE (tw n1)) false)) k / 4)))), (a2, .inl (T 2, 8, .inl (fun k => bI (isE ((up yv p (mk (tw n1 / 4) (isE (tw n1)) false)) k))))), (a3, .inl (T 2, 8, .inl (fun k => bI (isB ((up yv p (mk (tw n1 / 4) (isE (tw n1)) false)) k))))), (a4, .inl (T 0, 60, .inl (fun k => nI (tw k / 4)))), (a5, .inl (T 2, 60, .inl (fun k => bI (isE (tw k)))))] := hD
        refine lv_aload_n hx hb dX8_lift_70 rfl (lv_at hl 0 rfl) ?_
        refine zh_v (T := T) hx hb hml hown hts k_X8_106 (c_X8_height l D T q a1 a2 a3 a4 a5 (up yv p (mk (tw n1 / 4) (isE (tw n1)) false)) tw n1 nc ne 0 (by omega) ht) ⟨by decide, by decide⟩ rfl hl.1 [] rfl (Nat.le_of_ble_eq_true rfl) dX8_lift_71 ⟨Nat.le_of_ble_eq_true rfl, Nat.le_of_ble_eq_true rfl⟩ hK hP hD hS hA (ci := 4) rfl rfl rfl [0, 1, 2, 3, 4, 5] [] (wr := []) rfl rfl (by decide) (by decide) (by decide) [0, 1, 2, 3, 4, 5] (fun _ => [(q, .inr (4, [.ref a1, .ref a2, .ref a3, .ref a4, .ref a5, .int (nI n1), .int nc, .int (bI ne), .int 0])), (a1, .inl (T 0, 8, .inl (fun k => nI ((up yv p (mk (tw n1 / 4) (isE (tw n1)) false)) k / 4)))), (a2, .inl (T 2, 8, .inl (fun k => bI (isE ((up yv p (mk (tw n1 / 4) (isE (tw n1)) false)) k))))), (a3, .inl (T 2, 8, .inl (fun k => bI (isB ((up yv p (mk (tw n1 / 4) (isE (tw n1)) false)) k))))), (a4, .inl (T 0, 60, .inl (fun k => nI (tw k / 4)))), (a5, .inl (T 2, 60, .inl (fun k => bI (isE (tw k)))))]) (by decide) (fun _ => rfl) (fun _ H locs hP hD hS => ?_)
        have hP : va_P D zcl [(q, .inr (4, [.ref a1, .ref a2, .ref a3, .ref a4, .ref a5, .int (nI n1), .int nc, .int (bI ne), .int 0])), (a1, .inl (T 0, 8, .inl (fun k => nI ((up yv p (mk (tw n1 / 4) (isE (tw n1)) false)) k / 4)))), (a2, .inl (T 2, 8, .inl (fun k => bI (isE ((up yv p (mk (tw n1 / 4) (isE (tw n1)) false)) k))))), (a3, .inl (T 2, 8, .inl (fun k => bI (isB ((up yv p (mk (tw n1 / 4) (isE (tw n1)) false)) k))))), (a4, .inl (T 0, 60, .inl (fun k => nI (tw k / 4)))), (a5, .inl (T 2, 60, .inl (fun k => bI (isE (tw k)))))] H := hP
        have hD : va_D A [(q, .inr (4, [.ref a1, .ref a2, .ref a3, .ref a4, .ref a5, .int (nI n1), .int nc, .int (bI ne), .int 0])), (a1, .inl (T 0, 8, .inl (fun k => nI ((up yv p (mk (tw n1 / 4) (isE (tw n1)) false)) k / 4)))), (a2, .inl (T 2, 8, .inl (fun k => bI (isE ((up yv p (mk (tw n1 / 4) (isE (tw n1)) false)) k))))), (a3, .inl (T 2, 8, .inl (fun k => bI (isB ((up yv p (mk (tw n1 / 4) (isE (tw n1)) false)) k))))), (a4, .inl (T 0, 60, .inl (fun k => nI (tw k / 4)))), (a5, .inl (T 2, 60, .inl (fun k => bI (isE (tw k)))))] := hD
        exact zh_iret () hx hb hr hlocks dX8_lift_74 hP hD hS (rfl) (by rw [mk_self hv])
      · exact absurd h3 (by decide)
    · exact absurd h2 (nI_ne0 (by omega) (by omega))
  · exact absurd ((is_ok hp).symm.trans h1) (by decide)
set_option maxRecDepth 20000 in
theorem c_X8_lift_no (l : Launch) (D : va_G) (T : Nat → ClassId) (q a1 a2 a3 a4 a5 : Nat) (yv tw : Nat → Nat) (n0 : Nat) (nc : Int32) (ne : Bool) (th : Int32) (x : Int32) (hx0 : m_X8_is x = false) : Hm l yX8_lift cX8_lift 2 (some FieldType.int) 4 0 0 D T [.ref q, .int x] [(q, .inr (4, [.ref a1, .ref a2, .ref a3, .ref a4, .ref a5, .int (nI n0), .int nc, .int (bI ne), .int th])), (a1, .inl (T 0, 8, .inl (fun k => nI (yv k / 4)))), (a2, .inl (T 2, 8, .inl (fun k => bI (isE (yv k))))), (a3, .inl (T 2, 8, .inl (fun k => bI (isB (yv k))))), (a4, .inl (T 0, 60, .inl (fun k => nI (tw k / 4)))), (a5, .inl (T 2, 60, .inl (fun k => bI (isE (tw k)))))] (some (.int 0)) (fun _ : Unit => [(q, .inr (4, [.ref a1, .ref a2, .ref a3, .ref a4, .ref a5, .int (nI n0), .int nc, .int (bI ne), .int 1])), (a1, .inl (T 0, 8, .inl (fun k => nI (yv k / 4)))), (a2, .inl (T 2, 8, .inl (fun k => bI (isE (yv k))))), (a3, .inl (T 2, 8, .inl (fun k => bI (isB (yv k))))), (a4, .inl (T 0, 60, .inl (fun k => nI (tw k / 4)))), (a5, .inl (T 2, 60, .inl (fun k => bI (isE (tw k)))))]) := by
  refine Hm.of (by decide) (Nat.le_of_ble_eq_true rfl) ?_
  intro zp ze s zm args below zmeth zc hx hb hr hml hown hin hts hlocks A hA hP hK hD hS ls hl
  have hl : lv_has ls 2 [(0, .ref q), (1, .int x)] := hl
  refine lv_aload_n hx hb dX8_lift_0 rfl (lv_at hl 0 rfl) ?_
  refine lv_iload_n hx hb dX8_lift_1 rfl (lv_at hl 1 rfl) ?_
  refine zp_call hx hb hml hown hts k_X8_30 (c_X8_is l x) ⟨by decide, by decide⟩ rfl hl.1 [.ref q] rfl (Nat.le_of_ble_eq_true rfl) dX8_lift_2 ⟨by decide, by decide⟩ ?_
  refine zb_ne (tgt := 12) hx hb dX8_lift_5 (by decide) (fun h1 => ?_) (fun h1 => ?_)
  · exact absurd (hx0.symm.trans h1) (by decide)
  · refine lv_iconst (v := 1) hx hb dX8_lift_8 (by decide) ?_
    refine lv_goto (tgt := 24) hx hb dX8_lift_9 (by decide) ?_
    refine va_put (D := D) (ci := 4) (v := .int 1) (ty := .int) (C := RX8) (T := TX8) (N := 9) hx hb hts i_X8 tyX8 tyX8_ok nmX8 hown hK hP hD hS 0 rfl rfl 8 (by decide) (hts _ u742) (fun _ h9 => h9) rfl (by decide +kernel) rfl rfl (Nat.le_of_ble_eq_true rfl) dX8_lift_24 (fun H locs hP hD hS => ?_)
    have hP : va_P D zcl [(q, .inr (4, [.ref a1, .ref a2, .ref a3, .ref a4, .ref a5, .int (nI n0), .int nc, .int (bI ne), .int 1])), (a1, .inl (T 0, 8, .inl (fun k => nI (yv k / 4)))), (a2, .inl (T 2, 8, .inl (fun k => bI (isE (yv k))))), (a3, .inl (T 2, 8, .inl (fun k => bI (isB (yv k))))), (a4, .inl (T 0, 60, .inl (fun k => nI (tw k / 4)))), (a5, .inl (T 2, 60, .inl (fun k => bI (isE (tw k)))))] H := hP
    have hD : va_D A [(q, .inr (4, [.ref a1, .ref a2, .ref a3, .ref a4, .ref a5, .int (nI n0), .int nc, .int (bI ne), .int 1])), (a1, .inl (T 0, 8, .inl (fun k => nI (yv k / 4)))), (a2, .inl (T 2, 8, .inl (fun k => bI (isE (yv k))))), (a3, .inl (T 2, 8, .inl (fun k => bI (isB (yv k))))), (a4, .inl (T 0, 60, .inl (fun k => nI (tw k / 4)))), (a5, .inl (T 2, 60, .inl (fun k => bI (isE (tw k)))))] := hD
    refine lv_aload_n hx hb dX8_lift_27 rfl (lv_at hl 0 rfl) ?_
    refine va_get (D := D) (ci := 4) (v := .int 1) (C := RX8) (T := TX8) (N := 9) hx hb hts i_X8 hown hK hP 0 rfl rfl 8 (by decide) (hts _ u742) (fun _ h9 => h9) rfl dX8_lift_28 ?_
    refine lv_if_le (tgt := 36) hx hb dX8_lift_31 (by decide) (fun h2 => ?_) (fun h2 => ?_)
    · exact absurd h2 (by decide)
    · refine lv_iconst (v := 0) hx hb dX8_lift_34 (by decide) ?_
      exact zh_iret () hx hb hr hlocks dX8_lift_35 hP hD hS (rfl) (rfl)
set_option maxRecDepth 20000 in
theorem c_X8_lift_none (l : Launch) (D : va_G) (T : Nat → ClassId) (q a1 a2 a3 a4 a5 : Nat) (yv tw : Nat → Nat) (n0 : Nat) (nc : Int32) (ne : Bool) (th : Int32) (p : Nat) (hp : p < 8) (hn : n0 = 0) : Hm l yX8_lift cX8_lift 2 (some FieldType.int) 4 0 0 D T [.ref q, .int (nI p)] [(q, .inr (4, [.ref a1, .ref a2, .ref a3, .ref a4, .ref a5, .int (nI n0), .int nc, .int (bI ne), .int th])), (a1, .inl (T 0, 8, .inl (fun k => nI (yv k / 4)))), (a2, .inl (T 2, 8, .inl (fun k => bI (isE (yv k))))), (a3, .inl (T 2, 8, .inl (fun k => bI (isB (yv k))))), (a4, .inl (T 0, 60, .inl (fun k => nI (tw k / 4)))), (a5, .inl (T 2, 60, .inl (fun k => bI (isE (tw k)))))] (some (.int 0)) (fun _ : Unit => [(q, .inr (4, [.ref a1, .ref a2, .ref a3, .ref a4, .ref a5, .int (nI n0), .int nc, .int (bI ne), .int 2])), (a1, .inl (T 0, 8, .inl (fun k => nI (yv k / 4)))), (a2, .inl (T 2, 8, .inl (fun k => bI (isE (yv k))))), (a3, .inl (T 2, 8, .inl (fun k => bI (isB (yv k))))), (a4, .inl (T 0, 60, .inl (fun k => nI (tw k / 4)))), (a5, .inl (T 2, 60, .inl (fun k => bI (isE (tw k)))))]) := by
  refine Hm.of (by decide) (Nat.le_of_ble_eq_true rfl) ?_
  intro zp ze s zm args below zmeth zc hx hb hr hml hown hin hts hlocks A hA hP hK hD hS ls hl
  have hl : lv_has ls 2 [(0, .ref q), (1, .int (nI p))] := hl
  refine lv_aload_n hx hb dX8_lift_0 rfl (lv_at hl 0 rfl) ?_
  refine lv_iload_n hx hb dX8_lift_1 rfl (lv_at hl 1 rfl) ?_
  refine zp_call hx hb hml hown hts k_X8_30 (c_X8_is l (nI p)) ⟨by decide, by decide⟩ rfl hl.1 [.ref q] rfl (Nat.le_of_ble_eq_true rfl) dX8_lift_2 ⟨by decide, by decide⟩ ?_
  refine zb_ne (tgt := 12) hx hb dX8_lift_5 (by decide) (fun h1 => ?_) (fun h1 => ?_)
  · refine lv_aload_n hx hb dX8_lift_12 rfl (lv_at hl 0 rfl) ?_
    refine va_get (D := D) (ci := 4) (v := .int (nI n0)) (C := RX8) (T := TX8) (N := 9) hx hb hts i_X8 hown hK hP 0 rfl rfl 5 (by decide) (hts _ u739) (fun _ h9 => h9) rfl dX8_lift_13 ?_
    refine lv_if_ne (tgt := 23) hx hb dX8_lift_16 (by decide) (fun h2 => ?_) (fun h2 => ?_)
    · exact absurd (show nI n0 = 0 by rw [hn]; rfl) h2
    · refine lv_iconst (v := 2) hx hb dX8_lift_19 (by decide) ?_
      refine lv_goto (tgt := 24) hx hb dX8_lift_20 (by decide) ?_
      refine va_put (D := D) (ci := 4) (v := .int 2) (ty := .int) (C := RX8) (T := TX8) (N := 9) hx hb hts i_X8 tyX8 tyX8_ok nmX8 hown hK hP hD hS 0 rfl rfl 8 (by decide) (hts _ u742) (fun _ h9 => h9) rfl (by decide +kernel) rfl rfl (Nat.le_of_ble_eq_true rfl) dX8_lift_24 (fun H locs hP hD hS => ?_)
      have hP : va_P D zcl [(q, .inr (4, [.ref a1, .ref a2, .ref a3, .ref a4, .ref a5, .int (nI n0), .int nc, .int (bI ne), .int 2])), (a1, .inl (T 0, 8, .inl (fun k => nI (yv k / 4)))), (a2, .inl (T 2, 8, .inl (fun k => bI (isE (yv k))))), (a3, .inl (T 2, 8, .inl (fun k => bI (isB (yv k))))), (a4, .inl (T 0, 60, .inl (fun k => nI (tw k / 4)))), (a5, .inl (T 2, 60, .inl (fun k => bI (isE (tw k)))))] H := hP
      have hD : va_D A [(q, .inr (4, [.ref a1, .ref a2, .ref a3, .ref a4, .ref a5, .int (nI n0), .int nc, .int (bI ne), .int 2])), (a1, .inl (T 0, 8, .inl (fun k => nI (yv k / 4)))), (a2, .inl (T 2, 8, .inl (fun k => bI (isE (yv k))))), (a3, .inl (T 2, 8, .inl (fun k => bI (isB (yv k))))), (a4, .inl (T 0, 60, .inl (fun k => nI (tw k / 4)))), (a5, .inl (T 2, 60, .inl (fun k => bI (isE (tw k)))))] := hD
      refine lv_aload_n hx hb dX8_lift_27 rfl (lv_at hl 0 rfl) ?_
      refine va_get (D := D) (ci := 4) (v := .int 2) (C := RX8) (T := TX8) (N := 9) hx hb hts i_X8 hown hK hP 0 rfl rfl 8 (by decide) (hts _ u742) (fun _ h9 => h9) rfl dX8_lift_28 ?_
      refine lv_if_le (tgt := 36) hx hb dX8_lift_31 (by decide) (fun h3 => ?_) (fun h3 => ?_)
      · exact absurd h3 (by decide)
      · refine lv_iconst (v := 0) hx hb dX8_lift_34 (by decide) ?_
        exact zh_iret () hx hb hr hlocks dX8_lift_35 hP hD hS (rfl) (rfl)
  · exact absurd ((is_ok hp).symm.trans h1) (by decide)
set_option maxRecDepth 20000 in
theorem c_X8_under (l : Launch) (D : va_G) (T : Nat → ClassId) (q a1 a2 a3 a4 a5 : Nat) (yv tw : Nat → Nat) (n0 : Nat) (nc : Int32) (ne : Bool) (th : Int32) (x : Int32) (hn : n0 ≤ 60) (ht : ∀ k, tw k < 262144) : Hm l yX8_under cX8_under 6 (some FieldType.int) 3 0 0 D T [.ref q, .int x] [(q, .inr (4, [.ref a1, .ref a2, .ref a3, .ref a4, .ref a5, .int (nI n0), .int nc, .int (bI ne), .int th])), (a1, .inl (T 0, 8, .inl (fun k => nI (yv k / 4)))), (a2, .inl (T 2, 8, .inl (fun k => bI (isE (yv k))))), (a3, .inl (T 2, 8, .inl (fun k => bI (isB (yv k))))), (a4, .inl (T 0, 60, .inl (fun k => nI (tw k / 4)))), (a5, .inl (T 2, 60, .inl (fun k => bI (isE (tw k)))))] (some (.int (nI (unN tw x n0)))) (fun _ : Unit => [(q, .inr (4, [.ref a1, .ref a2, .ref a3, .ref a4, .ref a5, .int (nI n0), .int nc, .int (bI ne), .int 0])), (a1, .inl (T 0, 8, .inl (fun k => nI (yv k / 4)))), (a2, .inl (T 2, 8, .inl (fun k => bI (isE (yv k))))), (a3, .inl (T 2, 8, .inl (fun k => bI (isB (yv k))))), (a4, .inl (T 0, 60, .inl (fun k => nI (tw k / 4)))), (a5, .inl (T 2, 60, .inl (fun k => bI (isE (tw k)))))]) := by
  refine Hm.of (by decide) (Nat.le_of_ble_eq_true rfl) ?_
  intro zp ze s zm args below zmeth zc hx hb hr hml hown hin hts hlocks A hA hP hK hD hS ls hl
  have hl : lv_has ls 6 [(0, .ref q), (1, .int x)] := hl
  refine lv_aload_n hx hb dX8_under_0 rfl (lv_at hl 0 rfl) ?_
  refine lv_iconst (v := 0) hx hb dX8_under_1 (by decide) ?_
  refine va_put (D := D) (ci := 4) (v := .int 0) (ty := .int) (C := RX8) (T := TX8) (N := 9) hx hb hts i_X8 tyX8 tyX8_ok nmX8 hown hK hP hD hS 0 rfl rfl 8 (by decide) (hts _ u742) (fun _ h9 => h9) rfl (by decide +kernel) rfl rfl (Nat.le_of_ble_eq_true rfl) dX8_under_2 (fun H locs hP hD hS => ?_)
  have hP : va_P D zcl [(q, .inr (4, [.ref a1, .ref a2, .ref a3, .ref a4, .ref a5, .int (nI n0), .int nc, .int (bI ne), .int 0])), (a1, .inl (T 0, 8, .inl (fun k => nI (yv k / 4)))), (a2, .inl (T 2, 8, .inl (fun k => bI (isE (yv k))))), (a3, .inl (T 2, 8, .inl (fun k => bI (isB (yv k))))), (a4, .inl (T 0, 60, .inl (fun k => nI (tw k / 4)))), (a5, .inl (T 2, 60, .inl (fun k => bI (isE (tw k)))))] H := hP
  have hD : va_D A [(q, .inr (4, [.ref a1, .ref a2, .ref a3, .ref a4, .ref a5, .int (nI n0), .int nc, .int (bI ne), .int 0])), (a1, .inl (T 0, 8, .inl (fun k => nI (yv k / 4)))), (a2, .inl (T 2, 8, .inl (fun k => bI (isE (yv k))))), (a3, .inl (T 2, 8, .inl (fun k => bI (isB (yv k))))), (a4, .inl (T 0, 60, .inl (fun k => nI (tw k / 4)))), (a5, .inl (T 2, 60, .inl (fun k => bI (isE (tw k)))))] := hD
  refine lv_iconst (v := 0) hx hb dX8_under_5 (by decide) ?_
  refine lv_istore_n (lv' := [(2, .int 0), (0, .ref q), (1, .int x)]) hx hb dX8_under_6 rfl hl (by decide) rfl (fun ls hl => ?_)
  refine lv_lconst (v := 0) hx hb dX8_under_7 (by decide) ?_
  refine lv_lstore_n (lv' := [(3, .long 0), (2, .int 0), (0, .ref q), (1, .int x)]) hx hb dX8_under_8 rfl hl (by decide) rfl (fun ls hl => ?_)
  refine lv_iconst (v := 0) hx hb dX8_under_9 (by decide) ?_
  refine lv_istore (lv' := [(5, .int 0), (3, .long 0), (2, .int 0), (0, .ref q), (1, .int x)]) hx hb dX8_under_10 hl (by decide) rfl (fun ls hl => ?_)
  have lp : ∀ (n : Nat) (j : Nat), j + n = n0 → ∀ (H : Heap) (locs : List Loc), va_P D zcl [(q, .inr (4, [.ref a1, .ref a2, .ref a3, .ref a4, .ref a5, .int (nI n0), .int nc, .int (bI ne), .int 0])), (a1, .inl (T 0, 8, .inl (fun k => nI (yv k / 4)))), (a2, .inl (T 2, 8, .inl (fun k => bI (isE (yv k))))), (a3, .inl (T 2, 8, .inl (fun k => bI (isB (yv k))))), (a4, .inl (T 0, 60, .inl (fun k => nI (tw k / 4)))), (a5, .inl (T 2, 60, .inl (fun k => bI (isE (tw k)))))] H → va_D A [(q, .inr (4, [.ref a1, .ref a2, .ref a3, .ref a4, .ref a5, .int (nI n0), .int nc, .int (bI ne), .int 0])), (a1, .inl (T 0, 8, .inl (fun k => nI (yv k / 4)))), (a2, .inl (T 2, 8, .inl (fun k => bI (isE (yv k))))), (a3, .inl (T 2, 8, .inl (fun k => bI (isB (yv k))))), (a4, .inl (T 0, 60, .inl (fun k => nI (tw k / 4)))), (a5, .inl (T 2, 60, .inl (fun k => bI (isE (tw k)))))] → va_S A s.heap H locs → ∀ ls : Array Slot, lv_has ls 6 [(0, .ref q), (1, .int x), (2, .int (nI (unN tw x j))), (3, .long (lN (htN tw j))), (5, .int (nI j))] → W zp l ze (zR 3 0 0) s zm args below zmeth zc H locs 0 0 (MQ below (zQh D A (some (.int (nI (unN tw x n0)))) (fun _ : Unit => [(q, .inr (4, [.ref a1, .ref a2, .ref a3, .ref a4, .ref a5, .int (nI n0), .int nc, .int (bI ne), .int 0])), (a1, .inl (T 0, 8, .inl (fun k => nI (yv k / 4)))), (a2, .inl (T 2, 8, .inl (fun k => bI (isE (yv k))))), (a3, .inl (T 2, 8, .inl (fun k => bI (isB (yv k))))), (a4, .inl (T 0, 60, .inl (fun k => nI (tw k / 4)))), (a5, .inl (T 2, 60, .inl (fun k => bI (isE (tw k)))))])) args s 0 0 A) (F0 zm 12 ls []) := by
    intro n
    induction n with
    | zero =>
      intro j hj H locs hP hD hS ls hl
      have hjk : j = n0 := by omega
      refine lv_iload hx hb dX8_under_12 (lv_at hl 4 rfl) ?_
      refine lv_aload_n hx hb dX8_under_14 rfl (lv_at hl 0 rfl) ?_
      refine va_get (D := D) (ci := 4) (v := .int (nI n0)) (C := RX8) (T := TX8) (N := 9) hx hb hts i_X8 hown hK hP 0 rfl rfl 5 (by decide) (hts _ u739) (fun _ h9 => h9) rfl dX8_under_15 ?_
      refine lv_icmp_ge (tgt := 53) hx hb dX8_under_18 (by decide) (fun h1 => ?_) (fun h1 => ?_)
      · refine lv_iload_n hx hb dX8_under_53 rfl (lv_at hl 2 rfl) ?_
        exact zh_iret () hx hb hr hlocks dX8_under_54 hP hD hS (by rw [hjk]) (rfl)
      · exact absurd (nI_le (by omega) (by omega)) h1
    | succ n ih =>
      intro j hj H locs hP hD hS ls hl
      have hl1 := fN_lt (eig (tw j))
      refine lv_iload hx hb dX8_under_12 (lv_at hl 4 rfl) ?_
      refine lv_aload_n hx hb dX8_under_14 rfl (lv_at hl 0 rfl) ?_
      refine va_get (D := D) (ci := 4) (v := .int (nI n0)) (C := RX8) (T := TX8) (N := 9) hx hb hts i_X8 hown hK hP 0 rfl rfl 5 (by decide) (hts _ u739) (fun _ h9 => h9) rfl dX8_under_15 ?_
      refine lv_icmp_ge (tgt := 53) hx hb dX8_under_18 (by decide) (fun h2 => ?_) (fun h2 => ?_)
      · exact absurd h2 (nI_ge (by omega) (by omega))
      · refine lv_lload_n hx hb dX8_under_21 rfl (lv_at hl 3 rfl) ?_
        refine lv_aload_n hx hb dX8_under_22 rfl (lv_at hl 0 rfl) ?_
        refine lv_iload hx hb dX8_under_23 (lv_at hl 4 rfl) ?_
        refine zh_v (T := T) hx hb hml hown hts k_X8_103 (c_X8_laidFine l D T q a1 a2 a3 a4 a5 yv tw n0 nc ne 0 j (by omega) ht) ⟨by decide, by decide⟩ rfl hl.1 [.long (lN (htN tw j))] rfl (Nat.le_of_ble_eq_true rfl) dX8_under_25 ⟨Nat.le_of_ble_eq_true rfl, Nat.le_of_ble_eq_true rfl⟩ hK hP hD hS hA (ci := 4) rfl rfl rfl [0, 1, 2, 3, 4, 5] [] (wr := []) rfl rfl (by decide) (by decide) (by decide) [0, 1, 2, 3, 4, 5] (fun _ => [(q, .inr (4, [.ref a1, .ref a2, .ref a3, .ref a4, .ref a5, .int (nI n0), .int nc, .int (bI ne), .int 0])), (a1, .inl (T 0, 8, .inl (fun k => nI (yv k / 4)))), (a2, .inl (T 2, 8, .inl (fun k => bI (isE (yv k))))), (a3, .inl (T 2, 8, .inl (fun k => bI (isB (yv k))))), (a4, .inl (T 0, 60, .inl (fun k => nI (tw k / 4)))), (a5, .inl (T 2, 60, .inl (fun k => bI (isE (tw k)))))]) (by decide) (fun _ => rfl) (fun _ H locs hP hD hS => ?_)
        have hP : va_P D zcl [(q, .inr (4, [.ref a1, .ref a2, .ref a3, .ref a4, .ref a5, .int (nI n0), .int nc, .int (bI ne), .int 0])), (a1, .inl (T 0, 8, .inl (fun k => nI (yv k / 4)))), (a2, .inl (T 2, 8, .inl (fun k => bI (isE (yv k))))), (a3, .inl (T 2, 8, .inl (fun k => bI (isB (yv k))))), (a4, .inl (T 0, 60, .inl (fun k => nI (tw k / 4)))), (a5, .inl (T 2, 60, .inl (fun k => bI (isE (tw k)))))] H := hP
        have hD : va_D A [(q, .inr (4, [.ref a1, .ref a2, .ref a3, .ref a4, .ref a5, .int (nI n0), .int nc, .int (bI ne), .int 0])), (a1, .inl (T 0, 8, .inl (fun k => nI (yv k / 4)))), (a2, .inl (T 2, 8, .inl (fun k => bI (isE (yv k))))), (a3, .inl (T 2, 8, .inl (fun k => bI (isB (yv k))))), (a4, .inl (T 0, 60, .inl (fun k => nI (tw k / 4)))), (a5, .inl (T 2, 60, .inl (fun k => bI (isE (tw k)))))] := hD
        refine lv_i2l hx hb dX8_under_28 rfl ?_
        refine zf_l (x' := lN (fN (eig (tw j)))) (nI_l (by omega)) ?_
        refine lv_ladd hx hb dX8_under_29 ?_
        refine zf_l (x' := lN (htN tw (j + 1))) (lN_add _ _) ?_
        refine lv_lstore_n (lv' := [(3, .long (lN (htN tw (j + 1)))), (0, .ref q), (1, .int x), (2, .int (nI (unN tw x j))), (5, .int (nI j))]) hx hb dX8_under_30 rfl hl (by decide) rfl (fun ls hl => ?_)
        refine lv_lload_n hx hb dX8_under_31 rfl (lv_at hl 0 rfl) ?_
        refine lv_iload_n hx hb dX8_under_32 rfl (lv_at hl 2 rfl) ?_
        refine lv_i2l hx hb dX8_under_33 rfl ?_
        refine zl_gt (tgt := 45) hx hb dX8_under_34 dX8_under_35 (by decide) (fun h3 => ?_) (fun h3 => ?_)
        · refine lv_iload_n hx hb dX8_under_45 rfl (lv_at hl 3 rfl) ?_
          refine zf_i (x' := nI (unN tw x (j + 1))) (by rw [unN, if_pos h3]) ?_
          refine lv_istore_n (lv' := [(2, .int (nI (unN tw x (j + 1)))), (3, .long (lN (htN tw (j + 1)))), (0, .ref q), (1, .int x), (5, .int (nI j))]) hx hb dX8_under_46 rfl hl (by decide) rfl (fun ls hl => ?_)
          refine lv_iinc (v := (nI (j + 1))) (lv' := [(5, .int (nI (j + 1))), (2, .int (nI (unN tw x (j + 1)))), (3, .long (lN (htN tw (j + 1)))), (0, .ref q), (1, .int x)]) hx hb dX8_under_47 hl (k := 4) rfl (nI_1 j) (by decide) rfl (fun ls hl => ?_)
          refine lv_goto (tgt := 12) hx hb dX8_under_50 (by decide) ?_
          exact ih (j + 1) (by omega) _ _ hP hD hS ls (lv_sub hl [3, 4, 1, 2, 0] rfl)
        · refine lv_iload hx hb dX8_under_38 (lv_at hl 4 rfl) ?_
          refine lv_iconst (v := 1) hx hb dX8_under_40 (by decide) ?_
          refine lv_iadd hx hb dX8_under_41 ?_
          refine zf_i (x' := nI (unN tw x (j + 1))) (by rw [unN, if_neg h3]; exact nI_1 j) ?_
          refine lv_goto (tgt := 46) hx hb dX8_under_42 (by decide) ?_
          refine lv_istore_n (lv' := [(2, .int (nI (unN tw x (j + 1)))), (3, .long (lN (htN tw (j + 1)))), (0, .ref q), (1, .int x), (5, .int (nI j))]) hx hb dX8_under_46 rfl hl (by decide) rfl (fun ls hl => ?_)
          refine lv_iinc (v := (nI (j + 1))) (lv' := [(5, .int (nI (j + 1))), (2, .int (nI (unN tw x (j + 1)))), (3, .long (lN (htN tw (j + 1)))), (0, .ref q), (1, .int x)]) hx hb dX8_under_47 hl (k := 4) rfl (nI_1 j) (by decide) rfl (fun ls hl => ?_)
          refine lv_goto (tgt := 12) hx hb dX8_under_50 (by decide) ?_
          exact ih (j + 1) (by omega) _ _ hP hD hS ls (lv_sub hl [3, 4, 1, 2, 0] rfl)
  exact lp n0 0 (by omega) _ _ hP hD hS ls (lv_sub hl [3, 4, 2, 1, 0] rfl)
set_option maxRecDepth 20000 in
theorem c_X8_melt_ok (l : Launch) (D : va_G) (T : Nat → ClassId) (q a1 a2 a3 a4 a5 : Nat) (yv tw : Nat → Nat) (n0 : Nat) (nc : Int32) (ne : Bool) (th : Int32) (p : Nat) (hp : p < 8) (hn0 : 0 < n0) (hn : n0 ≤ 60) (hr0 : rdC (egN tw n0) ≤ 65535) (hy : ∀ k, yv k < 262144) (ht : ∀ k, tw k < 262144) : Hm l yX8_melt cX8_melt 5 (some FieldType.int) 4 0 0 D T [.ref q, .int (nI p)] [(q, .inr (4, [.ref a1, .ref a2, .ref a3, .ref a4, .ref a5, .int (nI n0), .int nc, .int (bI ne), .int th])), (a1, .inl (T 0, 8, .inl (fun k => nI (yv k / 4)))), (a2, .inl (T 2, 8, .inl (fun k => bI (isE (yv k))))), (a3, .inl (T 2, 8, .inl (fun k => bI (isB (yv k))))), (a4, .inl (T 0, 60, .inl (fun k => nI (tw k / 4)))), (a5, .inl (T 2, 60, .inl (fun k => bI (isE (tw k)))))] (some (.int (nI (htN tw n0) - fI (mk (rdC (egN tw n0)) (rdE (egN tw n0)) false)))) (fun _ : Unit => [(q, .inr (4, [.ref a1, .ref a2, .ref a3, .ref a4, .ref a5, .int (nI 0), .int (rdN (egN tw n0)), .int (bI (rdE (egN tw n0))), .int 0])), (a1, .inl (T 0, 8, .inl (fun k => nI ((up yv p (mk (rdC (egN tw n0)) (rdE (egN tw n0)) false)) k / 4)))), (a2, .inl (T 2, 8, .inl (fun k => bI (isE ((up yv p (mk (rdC (egN tw n0)) (rdE (egN tw n0)) false)) k))))), (a3, .inl (T 2, 8, .inl (fun k => bI (isB ((up yv p (mk (rdC (egN tw n0)) (rdE (egN tw n0)) false)) k))))), (a4, .inl (T 0, 60, .inl (fun k => nI (tw k / 4)))), (a5, .inl (T 2, 60, .inl (fun k => bI (isE (tw k)))))]) := by
  refine Hm.of (by decide) (Nat.le_of_ble_eq_true rfl) ?_
  intro zp ze s zm args below zmeth zc hx hb hr hml hown hin hts hlocks A hA hP hK hD hS ls hl
  have hl : lv_has ls 5 [(0, .ref q), (1, .int (nI p))] := hl
  have heg := egN_lt ht n0
  refine lv_aload_n hx hb dX8_melt_0 rfl (lv_at hl 0 rfl) ?_
  refine lv_iload_n hx hb dX8_melt_1 rfl (lv_at hl 1 rfl) ?_
  refine zp_call hx hb hml hown hts k_X8_30 (c_X8_is l (nI p)) ⟨by decide, by decide⟩ rfl hl.1 [.ref q] rfl (Nat.le_of_ble_eq_true rfl) dX8_melt_2 ⟨by decide, by decide⟩ ?_
  refine zb_ne (tgt := 12) hx hb dX8_melt_5 (by decide) (fun h1 => ?_) (fun h1 => ?_)
  · refine lv_aload_n hx hb dX8_melt_12 rfl (lv_at hl 0 rfl) ?_
    refine va_get (D := D) (ci := 4) (v := .int (nI n0)) (C := RX8) (T := TX8) (N := 9) hx hb hts i_X8 hown hK hP 0 rfl rfl 5 (by decide) (hts _ u739) (fun _ h9 => h9) rfl dX8_melt_13 ?_
    refine lv_if_ne (tgt := 23) hx hb dX8_melt_16 (by decide) (fun h2 => ?_) (fun h2 => ?_)
    · refine lv_iconst (v := 0) hx hb dX8_melt_23 (by decide) ?_
      refine va_put (D := D) (ci := 4) (v := .int 0) (ty := .int) (C := RX8) (T := TX8) (N := 9) hx hb hts i_X8 tyX8 tyX8_ok nmX8 hown hK hP hD hS 0 rfl rfl 8 (by decide) (hts _ u742) (fun _ h9 => h9) rfl (by decide +kernel) rfl rfl (Nat.le_of_ble_eq_true rfl) dX8_melt_24 (fun H locs hP hD hS => ?_)
      have hP : va_P D zcl [(q, .inr (4, [.ref a1, .ref a2, .ref a3, .ref a4, .ref a5, .int (nI n0), .int nc, .int (bI ne), .int 0])), (a1, .inl (T 0, 8, .inl (fun k => nI (yv k / 4)))), (a2, .inl (T 2, 8, .inl (fun k => bI (isE (yv k))))), (a3, .inl (T 2, 8, .inl (fun k => bI (isB (yv k))))), (a4, .inl (T 0, 60, .inl (fun k => nI (tw k / 4)))), (a5, .inl (T 2, 60, .inl (fun k => bI (isE (tw k)))))] H := hP
      have hD : va_D A [(q, .inr (4, [.ref a1, .ref a2, .ref a3, .ref a4, .ref a5, .int (nI n0), .int nc, .int (bI ne), .int 0])), (a1, .inl (T 0, 8, .inl (fun k => nI (yv k / 4)))), (a2, .inl (T 2, 8, .inl (fun k => bI (isE (yv k))))), (a3, .inl (T 2, 8, .inl (fun k => bI (isB (yv k))))), (a4, .inl (T 0, 60, .inl (fun k => nI (tw k / 4)))), (a5, .inl (T 2, 60, .inl (fun k => bI (isE (tw k)))))] := hD
      refine lv_aload_n hx hb dX8_melt_27 rfl (lv_at hl 0 rfl) ?_
      refine va_get (D := D) (ci := 4) (v := .int 0) (C := RX8) (T := TX8) (N := 9) hx hb hts i_X8 hown hK hP 0 rfl rfl 8 (by decide) (hts _ u742) (fun _ h9 => h9) rfl dX8_melt_28 ?_
      refine lv_if_le (tgt := 36) hx hb dX8_melt_31 (by decide) (fun h3 => ?_) (fun h3 => ?_)
      · refine lv_lconst (v := 0) hx hb dX8_melt_36 (by decide) ?_
        refine lv_lstore_n (lv' := [(2, .long 0), (0, .ref q), (1, .int (nI p))]) hx hb dX8_melt_37 rfl hl (by decide) rfl (fun ls hl => ?_)
        refine lv_iconst (v := 0) hx hb dX8_melt_38 (by decide) ?_
        refine lv_istore (lv' := [(4, .int 0), (2, .long 0), (0, .ref q), (1, .int (nI p))]) hx hb dX8_melt_39 hl (by decide) rfl (fun ls hl => ?_)
        have lp : ∀ (n : Nat) (j : Nat), j + n = n0 → ∀ (H : Heap) (locs : List Loc), va_P D zcl [(q, .inr (4, [.ref a1, .ref a2, .ref a3, .ref a4, .ref a5, .int (nI n0), .int nc, .int (bI ne), .int 0])), (a1, .inl (T 0, 8, .inl (fun k => nI (yv k / 4)))), (a2, .inl (T 2, 8, .inl (fun k => bI (isE (yv k))))), (a3, .inl (T 2, 8, .inl (fun k => bI (isB (yv k))))), (a4, .inl (T 0, 60, .inl (fun k => nI (tw k / 4)))), (a5, .inl (T 2, 60, .inl (fun k => bI (isE (tw k)))))] H → va_D A [(q, .inr (4, [.ref a1, .ref a2, .ref a3, .ref a4, .ref a5, .int (nI n0), .int nc, .int (bI ne), .int 0])), (a1, .inl (T 0, 8, .inl (fun k => nI (yv k / 4)))), (a2, .inl (T 2, 8, .inl (fun k => bI (isE (yv k))))), (a3, .inl (T 2, 8, .inl (fun k => bI (isB (yv k))))), (a4, .inl (T 0, 60, .inl (fun k => nI (tw k / 4)))), (a5, .inl (T 2, 60, .inl (fun k => bI (isE (tw k)))))] → va_S A s.heap H locs → ∀ ls : Array Slot, lv_has ls 5 [(0, .ref q), (1, .int (nI p)), (2, .long (lN (egN tw j))), (4, .int (nI j))] → W zp l ze (zR 4 0 0) s zm args below zmeth zc H locs 0 0 (MQ below (zQh D A (some (.int (nI (htN tw n0) - fI (mk (rdC (egN tw n0)) (rdE (egN tw n0)) false)))) (fun _ : Unit => [(q, .inr (4, [.ref a1, .ref a2, .ref a3, .ref a4, .ref a5, .int (nI 0), .int (rdN (egN tw n0)), .int (bI (rdE (egN tw n0))), .int 0])), (a1, .inl (T 0, 8, .inl (fun k => nI ((up yv p (mk (rdC (egN tw n0)) (rdE (egN tw n0)) false)) k / 4)))), (a2, .inl (T 2, 8, .inl (fun k => bI (isE ((up yv p (mk (rdC (egN tw n0)) (rdE (egN tw n0)) false)) k))))), (a3, .inl (T 2, 8, .inl (fun k => bI (isB ((up yv p (mk (rdC (egN tw n0)) (rdE (egN tw n0)) false)) k))))), (a4, .inl (T 0, 60, .inl (fun k => nI (tw k / 4)))), (a5, .inl (T 2, 60, .inl (fun k => bI (isE (tw k)))))])) args s 0 0 A) (F0 zm 41 ls []) := by
          intro n
          induction n with
          | zero =>
            intro j hj H locs hP hD hS ls hl
            have hjk : j = n0 := by omega
            rw [hjk] at hl
            refine lv_iload hx hb dX8_melt_41 (lv_at hl 3 rfl) ?_
            refine lv_aload_n hx hb dX8_melt_43 rfl (lv_at hl 0 rfl) ?_
            refine va_get (D := D) (ci := 4) (v := .int (nI n0)) (C := RX8) (T := TX8) (N := 9) hx hb hts i_X8 hown hK hP 0 rfl rfl 5 (by decide) (hts _ u739) (fun _ h9 => h9) rfl dX8_melt_44 ?_
            refine lv_icmp_ge (tgt := 77) hx hb dX8_melt_47 (by decide) (fun h4 => ?_) (fun h4 => ?_)
            · refine lv_aload_n hx hb dX8_melt_77 rfl (lv_at hl 0 rfl) ?_
              refine lv_lload_n hx hb dX8_melt_78 rfl (lv_at hl 2 rfl) ?_
              refine zh_v (T := T) hx hb hml hown hts k_X8_88 (c_X8_reduced l D T q a1 a2 a3 a4 a5 yv tw n0 nc ne 0 (egN tw n0) (by omega)) ⟨by decide, by decide⟩ rfl hl.1 [] rfl (Nat.le_of_ble_eq_true rfl) dX8_melt_79 ⟨Nat.le_of_ble_eq_true rfl, Nat.le_of_ble_eq_true rfl⟩ hK hP hD hS hA (ci := 4) rfl rfl rfl [0, 1, 2, 3, 4, 5] [] (wr := []) rfl rfl (by decide) (by decide) (by decide) [0, 1, 2, 3, 4, 5] (fun _ => [(q, .inr (4, [.ref a1, .ref a2, .ref a3, .ref a4, .ref a5, .int (nI n0), .int (rdN (egN tw n0)), .int (bI (rdE (egN tw n0))), .int 0])), (a1, .inl (T 0, 8, .inl (fun k => nI (yv k / 4)))), (a2, .inl (T 2, 8, .inl (fun k => bI (isE (yv k))))), (a3, .inl (T 2, 8, .inl (fun k => bI (isB (yv k))))), (a4, .inl (T 0, 60, .inl (fun k => nI (tw k / 4)))), (a5, .inl (T 2, 60, .inl (fun k => bI (isE (tw k)))))]) (by decide) (fun _ => rfl) (fun _ H locs hP hD hS => ?_)
              have hP : va_P D zcl [(q, .inr (4, [.ref a1, .ref a2, .ref a3, .ref a4, .ref a5, .int (nI n0), .int (rdN (egN tw n0)), .int (bI (rdE (egN tw n0))), .int 0])), (a1, .inl (T 0, 8, .inl (fun k => nI (yv k / 4)))), (a2, .inl (T 2, 8, .inl (fun k => bI (isE (yv k))))), (a3, .inl (T 2, 8, .inl (fun k => bI (isB (yv k))))), (a4, .inl (T 0, 60, .inl (fun k => nI (tw k / 4)))), (a5, .inl (T 2, 60, .inl (fun k => bI (isE (tw k)))))] H := hP
              have hD : va_D A [(q, .inr (4, [.ref a1, .ref a2, .ref a3, .ref a4, .ref a5, .int (nI n0), .int (rdN (egN tw n0)), .int (bI (rdE (egN tw n0))), .int 0])), (a1, .inl (T 0, 8, .inl (fun k => nI (yv k / 4)))), (a2, .inl (T 2, 8, .inl (fun k => bI (isE (yv k))))), (a3, .inl (T 2, 8, .inl (fun k => bI (isB (yv k))))), (a4, .inl (T 0, 60, .inl (fun k => nI (tw k / 4)))), (a5, .inl (T 2, 60, .inl (fun k => bI (isE (tw k)))))] := hD
              refine zb_ne (tgt := 92) hx hb dX8_melt_82 (by decide) (fun h5 => ?_) (fun h5 => ?_)
              · refine lv_aload_n hx hb dX8_melt_92 rfl (lv_at hl 0 rfl) ?_
                refine zh_v (T := T) hx hb hml hown hts k_X8_106 (c_X8_height l D T q a1 a2 a3 a4 a5 yv tw n0 (rdN (egN tw n0)) (rdE (egN tw n0)) 0 (by omega) ht) ⟨by decide, by decide⟩ rfl hl.1 [] rfl (Nat.le_of_ble_eq_true rfl) dX8_melt_93 ⟨Nat.le_of_ble_eq_true rfl, Nat.le_of_ble_eq_true rfl⟩ hK hP hD hS hA (ci := 4) rfl rfl rfl [0, 1, 2, 3, 4, 5] [] (wr := []) rfl rfl (by decide) (by decide) (by decide) [0, 1, 2, 3, 4, 5] (fun _ => [(q, .inr (4, [.ref a1, .ref a2, .ref a3, .ref a4, .ref a5, .int (nI n0), .int (rdN (egN tw n0)), .int (bI (rdE (egN tw n0))), .int 0])), (a1, .inl (T 0, 8, .inl (fun k => nI (yv k / 4)))), (a2, .inl (T 2, 8, .inl (fun k => bI (isE (yv k))))), (a3, .inl (T 2, 8, .inl (fun k => bI (isB (yv k))))), (a4, .inl (T 0, 60, .inl (fun k => nI (tw k / 4)))), (a5, .inl (T 2, 60, .inl (fun k => bI (isE (tw k)))))]) (by decide) (fun _ => rfl) (fun _ H locs hP hD hS => ?_)
                have hP : va_P D zcl [(q, .inr (4, [.ref a1, .ref a2, .ref a3, .ref a4, .ref a5, .int (nI n0), .int (rdN (egN tw n0)), .int (bI (rdE (egN tw n0))), .int 0])), (a1, .inl (T 0, 8, .inl (fun k => nI (yv k / 4)))), (a2, .inl (T 2, 8, .inl (fun k => bI (isE (yv k))))), (a3, .inl (T 2, 8, .inl (fun k => bI (isB (yv k))))), (a4, .inl (T 0, 60, .inl (fun k => nI (tw k / 4)))), (a5, .inl (T 2, 60, .inl (fun k => bI (isE (tw k)))))] H := hP
                have hD : va_D A [(q, .inr (4, [.ref a1, .ref a2, .ref a3, .ref a4, .ref a5, .int (nI n0), .int (rdN (egN tw n0)), .int (bI (rdE (egN tw n0))), .int 0])), (a1, .inl (T 0, 8, .inl (fun k => nI (yv k / 4)))), (a2, .inl (T 2, 8, .inl (fun k => bI (isE (yv k))))), (a3, .inl (T 2, 8, .inl (fun k => bI (isB (yv k))))), (a4, .inl (T 0, 60, .inl (fun k => nI (tw k / 4)))), (a5, .inl (T 2, 60, .inl (fun k => bI (isE (tw k)))))] := hD
                refine lv_istore (lv' := [(4, .int (nI (htN tw n0))), (0, .ref q), (1, .int (nI p)), (2, .long (lN (egN tw n0)))]) hx hb dX8_melt_96 hl (by decide) rfl (fun ls hl => ?_)
                refine lv_aload_n hx hb dX8_melt_98 rfl (lv_at hl 1 rfl) ?_
                refine lv_iconst (v := 0) hx hb dX8_melt_99 (by decide) ?_
                refine zf_i (x' := nI 0) (rfl) ?_
                refine va_put (D := D) (ci := 4) (v := .int (nI 0)) (ty := .int) (C := RX8) (T := TX8) (N := 9) hx hb hts i_X8 tyX8 tyX8_ok nmX8 hown hK hP hD hS 0 rfl rfl 5 (by decide) (hts _ u739) (fun _ h9 => h9) rfl (by decide +kernel) rfl rfl (Nat.le_of_ble_eq_true rfl) dX8_melt_100 (fun H locs hP hD hS => ?_)
                have hP : va_P D zcl [(q, .inr (4, [.ref a1, .ref a2, .ref a3, .ref a4, .ref a5, .int (nI 0), .int (rdN (egN tw n0)), .int (bI (rdE (egN tw n0))), .int 0])), (a1, .inl (T 0, 8, .inl (fun k => nI (yv k / 4)))), (a2, .inl (T 2, 8, .inl (fun k => bI (isE (yv k))))), (a3, .inl (T 2, 8, .inl (fun k => bI (isB (yv k))))), (a4, .inl (T 0, 60, .inl (fun k => nI (tw k / 4)))), (a5, .inl (T 2, 60, .inl (fun k => bI (isE (tw k)))))] H := hP
                have hD : va_D A [(q, .inr (4, [.ref a1, .ref a2, .ref a3, .ref a4, .ref a5, .int (nI 0), .int (rdN (egN tw n0)), .int (bI (rdE (egN tw n0))), .int 0])), (a1, .inl (T 0, 8, .inl (fun k => nI (yv k / 4)))), (a2, .inl (T 2, 8, .inl (fun k => bI (isE (yv k))))), (a3, .inl (T 2, 8, .inl (fun k => bI (isB (yv k))))), (a4, .inl (T 0, 60, .inl (fun k => nI (tw k / 4)))), (a5, .inl (T 2, 60, .inl (fun k => bI (isE (tw k)))))] := hD
                refine lv_aload_n hx hb dX8_melt_103 rfl (lv_at hl 1 rfl) ?_
                refine lv_iload_n hx hb dX8_melt_104 rfl (lv_at hl 2 rfl) ?_
                refine lv_aload_n hx hb dX8_melt_105 rfl (lv_at hl 1 rfl) ?_
                refine va_get (D := D) (ci := 4) (v := .int (rdN (egN tw n0))) (C := RX8) (T := TX8) (N := 9) hx hb hts i_X8 hown hK hP 0 rfl rfl 6 (by decide) (hts _ u740) (fun _ h9 => h9) rfl dX8_melt_106 ?_
                refine zf_i (x' := nI (rdC (egN tw n0))) (if_pos hr0) ?_
                refine lv_aload_n hx hb dX8_melt_109 rfl (lv_at hl 1 rfl) ?_
                refine va_get (D := D) (ci := 4) (v := .int (bI (rdE (egN tw n0)))) (C := RX8) (T := TX8) (N := 9) hx hb hts i_X8 hown hK hP 0 rfl rfl 7 (by decide) (hts _ u741) (fun _ h9 => h9) rfl dX8_melt_110 ?_
                refine lv_iconst (v := 0) hx hb dX8_melt_113 (by decide) ?_
                refine zh_v (T := T) hx hb hml hown hts k_X8_62 (c_X8_write l D T q a1 a2 a3 a4 a5 yv tw 0 (rdN (egN tw n0)) (rdE (egN tw n0)) 0 p hp (rdC (egN tw n0)) (rdE (egN tw n0)) false) ⟨by decide, by decide⟩ rfl hl.1 [] rfl (Nat.le_of_ble_eq_true rfl) dX8_melt_114 ⟨Nat.le_of_ble_eq_true rfl, Nat.le_of_ble_eq_true rfl⟩ hK hP hD hS hA (ci := 4) rfl rfl rfl [0, 1, 2, 3, 4, 5] [] (wr := []) rfl rfl (by decide) (by decide) (by decide) [0, 1, 2, 3, 4, 5] (fun _ => [(q, .inr (4, [.ref a1, .ref a2, .ref a3, .ref a4, .ref a5, .int (nI 0), .int (rdN (egN tw n0)), .int (bI (rdE (egN tw n0))), .int 0])), (a1, .inl (T 0, 8, .inl (fun k => nI ((up yv p (mk (rdC (egN tw n0)) (rdE (egN tw n0)) false)) k / 4)))), (a2, .inl (T 2, 8, .inl (fun k => bI (isE ((up yv p (mk (rdC (egN tw n0)) (rdE (egN tw n0)) false)) k))))), (a3, .inl (T 2, 8, .inl (fun k => bI (isB ((up yv p (mk (rdC (egN tw n0)) (rdE (egN tw n0)) false)) k))))), (a4, .inl (T 0, 60, .inl (fun k => nI (tw k / 4)))), (a5, .inl (T 2, 60, .inl (fun k => bI (isE (tw k)))))]) (by decide) (fun _ => rfl) (fun _ H locs hP hD hS => ?_)
                have hP : va_P D zcl [(q, .inr (4, [.ref a1, .ref a2, .ref a3, .ref a4, .ref a5, .int (nI 0), .int (rdN (egN tw n0)), .int (bI (rdE (egN tw n0))), .int 0])), (a1, .inl (T 0, 8, .inl (fun k => nI ((up yv p (mk (rdC (egN tw n0)) (rdE (egN tw n0)) false)) k / 4)))), (a2, .inl (T 2, 8, .inl (fun k => bI (isE ((up yv p (mk (rdC (egN tw n0)) (rdE (egN tw n0)) false)) k))))), (a3, .inl (T 2, 8, .inl (fun k => bI (isB ((up yv p (mk (rdC (egN tw n0)) (rdE (egN tw n0)) false)) k))))), (a4, .inl (T 0, 60, .inl (fun k => nI (tw k / 4)))), (a5, .inl (T 2, 60, .inl (fun k => bI (isE (tw k)))))] H := hP
                have hD : va_D A [(q, .inr (4, [.ref a1, .ref a2, .ref a3, .ref a4, .ref a5, .int (nI 0), .int (rdN (egN tw n0)), .int (bI (rdE (egN tw n0))), .int 0])), (a1, .inl (T 0, 8, .inl (fun k => nI ((up yv p (mk (rdC (egN tw n0)) (rdE (egN tw n0)) false)) k / 4)))), (a2, .inl (T 2, 8, .inl (fun k => bI (isE ((up yv p (mk (rdC (egN tw n0)) (rdE (egN tw n0)) false)) k))))), (a3, .inl (T 2, 8, .inl (fun k => bI (isB ((up yv p (mk (rdC (egN tw n0)) (rdE (egN tw n0)) false)) k))))), (a4, .inl (T 0, 60, .inl (fun k => nI (tw k / 4)))), (a5, .inl (T 2, 60, .inl (fun k => bI (isE (tw k)))))] := hD
                refine lv_iload hx hb dX8_melt_117 (lv_at hl 0 rfl) ?_
                refine lv_aload_n hx hb dX8_melt_119 rfl (lv_at hl 1 rfl) ?_
                refine lv_iload_n hx hb dX8_melt_120 rfl (lv_at hl 2 rfl) ?_
                refine zh_v (T := T) hx hb hml hown hts k_X8_66 (c_X8_fineAt l D T q a1 a2 a3 a4 a5 (up yv p (mk (rdC (egN tw n0)) (rdE (egN tw n0)) false)) tw 0 (rdN (egN tw n0)) (rdE (egN tw n0)) 0 p hp (up_lt hy (mk_lt (Nat.lt_succ_of_le hr0) _ _))) ⟨by decide, by decide⟩ rfl hl.1 [.int (nI (htN tw n0))] rfl (Nat.le_of_ble_eq_true rfl) dX8_melt_121 ⟨Nat.le_of_ble_eq_true rfl, Nat.le_of_ble_eq_true rfl⟩ hK hP hD hS hA (ci := 4) rfl rfl rfl [0, 1, 2, 3, 4, 5] [] (wr := []) rfl rfl (by decide) (by decide) (by decide) [0, 1, 2, 3, 4, 5] (fun _ => [(q, .inr (4, [.ref a1, .ref a2, .ref a3, .ref a4, .ref a5, .int (nI 0), .int (rdN (egN tw n0)), .int (bI (rdE (egN tw n0))), .int 0])), (a1, .inl (T 0, 8, .inl (fun k => nI ((up yv p (mk (rdC (egN tw n0)) (rdE (egN tw n0)) false)) k / 4)))), (a2, .inl (T 2, 8, .inl (fun k => bI (isE ((up yv p (mk (rdC (egN tw n0)) (rdE (egN tw n0)) false)) k))))), (a3, .inl (T 2, 8, .inl (fun k => bI (isB ((up yv p (mk (rdC (egN tw n0)) (rdE (egN tw n0)) false)) k))))), (a4, .inl (T 0, 60, .inl (fun k => nI (tw k / 4)))), (a5, .inl (T 2, 60, .inl (fun k => bI (isE (tw k)))))]) (by decide) (fun _ => rfl) (fun _ H locs hP hD hS => ?_)
                have hP : va_P D zcl [(q, .inr (4, [.ref a1, .ref a2, .ref a3, .ref a4, .ref a5, .int (nI 0), .int (rdN (egN tw n0)), .int (bI (rdE (egN tw n0))), .int 0])), (a1, .inl (T 0, 8, .inl (fun k => nI ((up yv p (mk (rdC (egN tw n0)) (rdE (egN tw n0)) false)) k / 4)))), (a2, .inl (T 2, 8, .inl (fun k => bI (isE ((up yv p (mk (rdC (egN tw n0)) (rdE (egN tw n0)) false)) k))))), (a3, .inl (T 2, 8, .inl (fun k => bI (isB ((up yv p (mk (rdC (egN tw n0)) (rdE (egN tw n0)) false)) k))))), (a4, .inl (T 0, 60, .inl (fun k => nI (tw k / 4)))), (a5, .inl (T 2, 60, .inl (fun k => bI (isE (tw k)))))] H := hP
                have hD : va_D A [(q, .inr (4, [.ref a1, .ref a2, .ref a3, .ref a4, .ref a5, .int (nI 0), .int (rdN (egN tw n0)), .int (bI (rdE (egN tw n0))), .int 0])), (a1, .inl (T 0, 8, .inl (fun k => nI ((up yv p (mk (rdC (egN tw n0)) (rdE (egN tw n0)) false)) k / 4)))), (a2, .inl (T 2, 8, .inl (fun k => bI (isE ((up yv p (mk (rdC (egN tw n0)) (rdE (egN tw n0)) false)) k))))), (a3, .inl (T 2, 8, .inl (fun k => bI (isB ((up yv p (mk (rdC (egN tw n0)) (rdE (egN tw n0)) false)) k))))), (a4, .inl (T 0, 60, .inl (fun k => nI (tw k / 4)))), (a5, .inl (T 2, 60, .inl (fun k => bI (isE (tw k)))))] := hD
                refine lv_isub hx hb dX8_melt_124 ?_
                exact zh_iret () hx hb hr hlocks dX8_melt_125 hP hD hS (by rw [up_s]) (rfl)
              · exact absurd ((decide_eq_true hr0).symm.trans h5) (by decide)
            · exact absurd (nI_le (Nat.le_refl n0) (by omega)) h4
          | succ n ih =>
            intro j hj H locs hP hD hS ls hl
            have hl1 := eig_lt (ht j)
            refine lv_iload hx hb dX8_melt_41 (lv_at hl 3 rfl) ?_
            refine lv_aload_n hx hb dX8_melt_43 rfl (lv_at hl 0 rfl) ?_
            refine va_get (D := D) (ci := 4) (v := .int (nI n0)) (C := RX8) (T := TX8) (N := 9) hx hb hts i_X8 hown hK hP 0 rfl rfl 5 (by decide) (hts _ u739) (fun _ h9 => h9) rfl dX8_melt_44 ?_
            refine lv_icmp_ge (tgt := 77) hx hb dX8_melt_47 (by decide) (fun h6 => ?_) (fun h6 => ?_)
            · exact absurd h6 (nI_ge (by omega) (by omega))
            · refine lv_lload_n hx hb dX8_melt_50 rfl (lv_at hl 2 rfl) ?_
              refine lv_aload_n hx hb dX8_melt_51 rfl (lv_at hl 0 rfl) ?_
              refine va_get (D := D) (ci := 4) (v := .ref a4) (C := RX8) (T := TX8) (N := 9) hx hb hts i_X8 hown hK hP 0 rfl rfl 3 (by decide) (hts _ u737) (fun _ h9 => h9) rfl dX8_melt_52 ?_
              refine lv_iload hx hb dX8_melt_55 (lv_at hl 3 rfl) ?_
              refine za_iald hx hb hK hP 4 rfl j (rfl) (by omega) (by decide) dX8_melt_57 ?_
              refine lv_aload_n hx hb dX8_melt_58 rfl (lv_at hl 0 rfl) ?_
              refine va_get (D := D) (ci := 4) (v := .ref a5) (C := RX8) (T := TX8) (N := 9) hx hb hts i_X8 hown hK hP 0 rfl rfl 4 (by decide) (hts _ u738) (fun _ h9 => h9) rfl dX8_melt_59 ?_
              refine lv_iload hx hb dX8_melt_62 (lv_at hl 3 rfl) ?_
              refine za_zald hx hb hK hP 5 rfl j (rfl) (by omega) (by decide) dX8_melt_64 ?_
              refine zp_call hx hb hml hown hts k_X8_35 (c_X8_eighthsOf l (nI (tw j / 4)) (isE (tw j))) ⟨by decide, by decide⟩ rfl hl.1 [.long (lN (egN tw j))] rfl (Nat.le_of_ble_eq_true rfl) dX8_melt_65 ⟨Nat.le_of_ble_eq_true rfl, Nat.le_of_ble_eq_true rfl⟩ ?_
              refine zf_i (x' := nI (eig (tw j))) (e8_c) ?_
              refine lv_i2l hx hb dX8_melt_68 rfl ?_
              refine zf_l (x' := lN (eig (tw j))) (nI_l (by omega)) ?_
              refine lv_ladd hx hb dX8_melt_69 ?_
              refine zf_l (x' := lN (egN tw (j + 1))) (lN_add _ _) ?_
              refine lv_lstore_n (lv' := [(2, .long (lN (egN tw (j + 1)))), (0, .ref q), (1, .int (nI p)), (4, .int (nI j))]) hx hb dX8_melt_70 rfl hl (by decide) rfl (fun ls hl => ?_)
              refine lv_iinc (v := (nI (j + 1))) (lv' := [(4, .int (nI (j + 1))), (2, .long (lN (egN tw (j + 1)))), (0, .ref q), (1, .int (nI p))]) hx hb dX8_melt_71 hl (k := 3) rfl (nI_1 j) (by decide) rfl (fun ls hl => ?_)
              refine lv_goto (tgt := 41) hx hb dX8_melt_74 (by decide) ?_
              exact ih (j + 1) (by omega) _ _ hP hD hS ls (lv_sub hl [2, 3, 1, 0] rfl)
        exact lp n0 0 (by omega) _ _ hP hD hS ls (lv_sub hl [2, 3, 1, 0] rfl)
      · exact absurd h3 (by decide)
    · exact absurd h2 (nI_ne0 hn0 (by omega))
  · exact absurd ((is_ok hp).symm.trans h1) (by decide)
set_option maxRecDepth 20000 in
theorem c_X8_melt_big (l : Launch) (D : va_G) (T : Nat → ClassId) (q a1 a2 a3 a4 a5 : Nat) (yv tw : Nat → Nat) (n0 : Nat) (nc : Int32) (ne : Bool) (th : Int32) (p : Nat) (hp : p < 8) (hn0 : 0 < n0) (hn : n0 ≤ 60) (hr0 : 65535 < rdC (egN tw n0)) (ht : ∀ k, tw k < 262144) : Hm l yX8_melt cX8_melt 5 (some FieldType.int) 4 0 0 D T [.ref q, .int (nI p)] [(q, .inr (4, [.ref a1, .ref a2, .ref a3, .ref a4, .ref a5, .int (nI n0), .int nc, .int (bI ne), .int th])), (a1, .inl (T 0, 8, .inl (fun k => nI (yv k / 4)))), (a2, .inl (T 2, 8, .inl (fun k => bI (isE (yv k))))), (a3, .inl (T 2, 8, .inl (fun k => bI (isB (yv k))))), (a4, .inl (T 0, 60, .inl (fun k => nI (tw k / 4)))), (a5, .inl (T 2, 60, .inl (fun k => bI (isE (tw k)))))] (some (.int 0)) (fun _ : Unit => [(q, .inr (4, [.ref a1, .ref a2, .ref a3, .ref a4, .ref a5, .int (nI n0), .int (rdN (egN tw n0)), .int (bI (rdE (egN tw n0))), .int 3])), (a1, .inl (T 0, 8, .inl (fun k => nI (yv k / 4)))), (a2, .inl (T 2, 8, .inl (fun k => bI (isE (yv k))))), (a3, .inl (T 2, 8, .inl (fun k => bI (isB (yv k))))), (a4, .inl (T 0, 60, .inl (fun k => nI (tw k / 4)))), (a5, .inl (T 2, 60, .inl (fun k => bI (isE (tw k)))))]) := by
  refine Hm.of (by decide) (Nat.le_of_ble_eq_true rfl) ?_
  intro zp ze s zm args below zmeth zc hx hb hr hml hown hin hts hlocks A hA hP hK hD hS ls hl
  have hl : lv_has ls 5 [(0, .ref q), (1, .int (nI p))] := hl
  have heg := egN_lt ht n0
  refine lv_aload_n hx hb dX8_melt_0 rfl (lv_at hl 0 rfl) ?_
  refine lv_iload_n hx hb dX8_melt_1 rfl (lv_at hl 1 rfl) ?_
  refine zp_call hx hb hml hown hts k_X8_30 (c_X8_is l (nI p)) ⟨by decide, by decide⟩ rfl hl.1 [.ref q] rfl (Nat.le_of_ble_eq_true rfl) dX8_melt_2 ⟨by decide, by decide⟩ ?_
  refine zb_ne (tgt := 12) hx hb dX8_melt_5 (by decide) (fun h1 => ?_) (fun h1 => ?_)
  · refine lv_aload_n hx hb dX8_melt_12 rfl (lv_at hl 0 rfl) ?_
    refine va_get (D := D) (ci := 4) (v := .int (nI n0)) (C := RX8) (T := TX8) (N := 9) hx hb hts i_X8 hown hK hP 0 rfl rfl 5 (by decide) (hts _ u739) (fun _ h9 => h9) rfl dX8_melt_13 ?_
    refine lv_if_ne (tgt := 23) hx hb dX8_melt_16 (by decide) (fun h2 => ?_) (fun h2 => ?_)
    · refine lv_iconst (v := 0) hx hb dX8_melt_23 (by decide) ?_
      refine va_put (D := D) (ci := 4) (v := .int 0) (ty := .int) (C := RX8) (T := TX8) (N := 9) hx hb hts i_X8 tyX8 tyX8_ok nmX8 hown hK hP hD hS 0 rfl rfl 8 (by decide) (hts _ u742) (fun _ h9 => h9) rfl (by decide +kernel) rfl rfl (Nat.le_of_ble_eq_true rfl) dX8_melt_24 (fun H locs hP hD hS => ?_)
      have hP : va_P D zcl [(q, .inr (4, [.ref a1, .ref a2, .ref a3, .ref a4, .ref a5, .int (nI n0), .int nc, .int (bI ne), .int 0])), (a1, .inl (T 0, 8, .inl (fun k => nI (yv k / 4)))), (a2, .inl (T 2, 8, .inl (fun k => bI (isE (yv k))))), (a3, .inl (T 2, 8, .inl (fun k => bI (isB (yv k))))), (a4, .inl (T 0, 60, .inl (fun k => nI (tw k / 4)))), (a5, .inl (T 2, 60, .inl (fun k => bI (isE (tw k)))))] H := hP
      have hD : va_D A [(q, .inr (4, [.ref a1, .ref a2, .ref a3, .ref a4, .ref a5, .int (nI n0), .int nc, .int (bI ne), .int 0])), (a1, .inl (T 0, 8, .inl (fun k => nI (yv k / 4)))), (a2, .inl (T 2, 8, .inl (fun k => bI (isE (yv k))))), (a3, .inl (T 2, 8, .inl (fun k => bI (isB (yv k))))), (a4, .inl (T 0, 60, .inl (fun k => nI (tw k / 4)))), (a5, .inl (T 2, 60, .inl (fun k => bI (isE (tw k)))))] := hD
      refine lv_aload_n hx hb dX8_melt_27 rfl (lv_at hl 0 rfl) ?_
      refine va_get (D := D) (ci := 4) (v := .int 0) (C := RX8) (T := TX8) (N := 9) hx hb hts i_X8 hown hK hP 0 rfl rfl 8 (by decide) (hts _ u742) (fun _ h9 => h9) rfl dX8_melt_28 ?_
      refine lv_if_le (tgt := 36) hx hb dX8_melt_31 (by decide) (fun h3 => ?_) (fun h3 => ?_)
      · refine lv_lconst (v := 0) hx hb dX8_melt_36 (by decide) ?_
        refine lv_lstore_n (lv' := [(2, .long 0), (0, .ref q), (1, .int (nI p))]) hx hb dX8_melt_37 rfl hl (by decide) rfl (fun ls hl => ?_)
        refine lv_iconst (v := 0) hx hb dX8_melt_38 (by decide) ?_
        refine lv_istore (lv' := [(4, .int 0), (2, .long 0), (0, .ref q), (1, .int (nI p))]) hx hb dX8_melt_39 hl (by decide) rfl (fun ls hl => ?_)
        have lp : ∀ (n : Nat) (j : Nat), j + n = n0 → ∀ (H : Heap) (locs : List Loc), va_P D zcl [(q, .inr (4, [.ref a1, .ref a2, .ref a3, .ref a4, .ref a5, .int (nI n0), .int nc, .int (bI ne), .int 0])), (a1, .inl (T 0, 8, .inl (fun k => nI (yv k / 4)))), (a2, .inl (T 2, 8, .inl (fun k => bI (isE (yv k))))), (a3, .inl (T 2, 8, .inl (fun k => bI (isB (yv k))))), (a4, .inl (T 0, 60, .inl (fun k => nI (tw k / 4)))), (a5, .inl (T 2, 60, .inl (fun k => bI (isE (tw k)))))] H → va_D A [(q, .inr (4, [.ref a1, .ref a2, .ref a3, .ref a4, .ref a5, .int (nI n0), .int nc, .int (bI ne), .int 0])), (a1, .inl (T 0, 8, .inl (fun k => nI (yv k / 4)))), (a2, .inl (T 2, 8, .inl (fun k => bI (isE (yv k))))), (a3, .inl (T 2, 8, .inl (fun k => bI (isB (yv k))))), (a4, .inl (T 0, 60, .inl (fun k => nI (tw k / 4)))), (a5, .inl (T 2, 60, .inl (fun k => bI (isE (tw k)))))] → va_S A s.heap H locs → ∀ ls : Array Slot, lv_has ls 5 [(0, .ref q), (1, .int (nI p)), (2, .long (lN (egN tw j))), (4, .int (nI j))] → W zp l ze (zR 4 0 0) s zm args below zmeth zc H locs 0 0 (MQ below (zQh D A (some (.int 0)) (fun _ : Unit => [(q, .inr (4, [.ref a1, .ref a2, .ref a3, .ref a4, .ref a5, .int (nI n0), .int (rdN (egN tw n0)), .int (bI (rdE (egN tw n0))), .int 3])), (a1, .inl (T 0, 8, .inl (fun k => nI (yv k / 4)))), (a2, .inl (T 2, 8, .inl (fun k => bI (isE (yv k))))), (a3, .inl (T 2, 8, .inl (fun k => bI (isB (yv k))))), (a4, .inl (T 0, 60, .inl (fun k => nI (tw k / 4)))), (a5, .inl (T 2, 60, .inl (fun k => bI (isE (tw k)))))])) args s 0 0 A) (F0 zm 41 ls []) := by
          intro n
          induction n with
          | zero =>
            intro j hj H locs hP hD hS ls hl
            have hjk : j = n0 := by omega
            rw [hjk] at hl
            refine lv_iload hx hb dX8_melt_41 (lv_at hl 3 rfl) ?_
            refine lv_aload_n hx hb dX8_melt_43 rfl (lv_at hl 0 rfl) ?_
            refine va_get (D := D) (ci := 4) (v := .int (nI n0)) (C := RX8) (T := TX8) (N := 9) hx hb hts i_X8 hown hK hP 0 rfl rfl 5 (by decide) (hts _ u739) (fun _ h9 => h9) rfl dX8_melt_44 ?_
            refine lv_icmp_ge (tgt := 77) hx hb dX8_melt_47 (by decide) (fun h4 => ?_) (fun h4 => ?_)
            · refine lv_aload_n hx hb dX8_melt_77 rfl (lv_at hl 0 rfl) ?_
              refine lv_lload_n hx hb dX8_melt_78 rfl (lv_at hl 2 rfl) ?_
              refine zh_v (T := T) hx hb hml hown hts k_X8_88 (c_X8_reduced l D T q a1 a2 a3 a4 a5 yv tw n0 nc ne 0 (egN tw n0) (by omega)) ⟨by decide, by decide⟩ rfl hl.1 [] rfl (Nat.le_of_ble_eq_true rfl) dX8_melt_79 ⟨Nat.le_of_ble_eq_true rfl, Nat.le_of_ble_eq_true rfl⟩ hK hP hD hS hA (ci := 4) rfl rfl rfl [0, 1, 2, 3, 4, 5] [] (wr := []) rfl rfl (by decide) (by decide) (by decide) [0, 1, 2, 3, 4, 5] (fun _ => [(q, .inr (4, [.ref a1, .ref a2, .ref a3, .ref a4, .ref a5, .int (nI n0), .int (rdN (egN tw n0)), .int (bI (rdE (egN tw n0))), .int 0])), (a1, .inl (T 0, 8, .inl (fun k => nI (yv k / 4)))), (a2, .inl (T 2, 8, .inl (fun k => bI (isE (yv k))))), (a3, .inl (T 2, 8, .inl (fun k => bI (isB (yv k))))), (a4, .inl (T 0, 60, .inl (fun k => nI (tw k / 4)))), (a5, .inl (T 2, 60, .inl (fun k => bI (isE (tw k)))))]) (by decide) (fun _ => rfl) (fun _ H locs hP hD hS => ?_)
              have hP : va_P D zcl [(q, .inr (4, [.ref a1, .ref a2, .ref a3, .ref a4, .ref a5, .int (nI n0), .int (rdN (egN tw n0)), .int (bI (rdE (egN tw n0))), .int 0])), (a1, .inl (T 0, 8, .inl (fun k => nI (yv k / 4)))), (a2, .inl (T 2, 8, .inl (fun k => bI (isE (yv k))))), (a3, .inl (T 2, 8, .inl (fun k => bI (isB (yv k))))), (a4, .inl (T 0, 60, .inl (fun k => nI (tw k / 4)))), (a5, .inl (T 2, 60, .inl (fun k => bI (isE (tw k)))))] H := hP
              have hD : va_D A [(q, .inr (4, [.ref a1, .ref a2, .ref a3, .ref a4, .ref a5, .int (nI n0), .int (rdN (egN tw n0)), .int (bI (rdE (egN tw n0))), .int 0])), (a1, .inl (T 0, 8, .inl (fun k => nI (yv k / 4)))), (a2, .inl (T 2, 8, .inl (fun k => bI (isE (yv k))))), (a3, .inl (T 2, 8, .inl (fun k => bI (isB (yv k))))), (a4, .inl (T 0, 60, .inl (fun k => nI (tw k / 4)))), (a5, .inl (T 2, 60, .inl (fun k => bI (isE (tw k)))))] := hD
              refine zb_ne (tgt := 92) hx hb dX8_melt_82 (by decide) (fun h5 => ?_) (fun h5 => ?_)
              · exact absurd ((decide_eq_false (Nat.not_le.mpr hr0)).symm.trans h5) (by decide)
              · refine lv_aload_n hx hb dX8_melt_85 rfl (lv_at hl 0 rfl) ?_
                refine lv_iconst (v := 3) hx hb dX8_melt_86 (by decide) ?_
                refine va_put (D := D) (ci := 4) (v := .int 3) (ty := .int) (C := RX8) (T := TX8) (N := 9) hx hb hts i_X8 tyX8 tyX8_ok nmX8 hown hK hP hD hS 0 rfl rfl 8 (by decide) (hts _ u742) (fun _ h9 => h9) rfl (by decide +kernel) rfl rfl (Nat.le_of_ble_eq_true rfl) dX8_melt_87 (fun H locs hP hD hS => ?_)
                have hP : va_P D zcl [(q, .inr (4, [.ref a1, .ref a2, .ref a3, .ref a4, .ref a5, .int (nI n0), .int (rdN (egN tw n0)), .int (bI (rdE (egN tw n0))), .int 3])), (a1, .inl (T 0, 8, .inl (fun k => nI (yv k / 4)))), (a2, .inl (T 2, 8, .inl (fun k => bI (isE (yv k))))), (a3, .inl (T 2, 8, .inl (fun k => bI (isB (yv k))))), (a4, .inl (T 0, 60, .inl (fun k => nI (tw k / 4)))), (a5, .inl (T 2, 60, .inl (fun k => bI (isE (tw k)))))] H := hP
                have hD : va_D A [(q, .inr (4, [.ref a1, .ref a2, .ref a3, .ref a4, .ref a5, .int (nI n0), .int (rdN (egN tw n0)), .int (bI (rdE (egN tw n0))), .int 3])), (a1, .inl (T 0, 8, .inl (fun k => nI (yv k / 4)))), (a2, .inl (T 2, 8, .inl (fun k => bI (isE (yv k))))), (a3, .inl (T 2, 8, .inl (fun k => bI (isB (yv k))))), (a4, .inl (T 0, 60, .inl (fun k => nI (tw k / 4)))), (a5, .inl (T 2, 60, .inl (fun k => bI (isE (tw k)))))] := hD
                refine lv_iconst (v := 0) hx hb dX8_melt_90 (by decide) ?_
                exact zh_iret () hx hb hr hlocks dX8_melt_91 hP hD hS (rfl) (rfl)
            · exact absurd (nI_le (Nat.le_refl n0) (by omega)) h4
          | succ n ih =>
            intro j hj H locs hP hD hS ls hl
            have hl1 := eig_lt (ht j)
            refine lv_iload hx hb dX8_melt_41 (lv_at hl 3 rfl) ?_
            refine lv_aload_n hx hb dX8_melt_43 rfl (lv_at hl 0 rfl) ?_
            refine va_get (D := D) (ci := 4) (v := .int (nI n0)) (C := RX8) (T := TX8) (N := 9) hx hb hts i_X8 hown hK hP 0 rfl rfl 5 (by decide) (hts _ u739) (fun _ h9 => h9) rfl dX8_melt_44 ?_
            refine lv_icmp_ge (tgt := 77) hx hb dX8_melt_47 (by decide) (fun h6 => ?_) (fun h6 => ?_)
            · exact absurd h6 (nI_ge (by omega) (by omega))
            · refine lv_lload_n hx hb dX8_melt_50 rfl (lv_at hl 2 rfl) ?_
              refine lv_aload_n hx hb dX8_melt_51 rfl (lv_at hl 0 rfl) ?_
              refine va_get (D := D) (ci := 4) (v := .ref a4) (C := RX8) (T := TX8) (N := 9) hx hb hts i_X8 hown hK hP 0 rfl rfl 3 (by decide) (hts _ u737) (fun _ h9 => h9) rfl dX8_melt_52 ?_
              refine lv_iload hx hb dX8_melt_55 (lv_at hl 3 rfl) ?_
              refine za_iald hx hb hK hP 4 rfl j (rfl) (by omega) (by decide) dX8_melt_57 ?_
              refine lv_aload_n hx hb dX8_melt_58 rfl (lv_at hl 0 rfl) ?_
              refine va_get (D := D) (ci := 4) (v := .ref a5) (C := RX8) (T := TX8) (N := 9) hx hb hts i_X8 hown hK hP 0 rfl rfl 4 (by decide) (hts _ u738) (fun _ h9 => h9) rfl dX8_melt_59 ?_
              refine lv_iload hx hb dX8_melt_62 (lv_at hl 3 rfl) ?_
              refine za_zald hx hb hK hP 5 rfl j (rfl) (by omega) (by decide) dX8_melt_64 ?_
              refine zp_call hx hb hml hown hts k_X8_35 (c_X8_eighthsOf l (nI (tw j / 4)) (isE (tw j))) ⟨by decide, by decide⟩ rfl hl.1 [.long (lN (egN tw j))] rfl (Nat.le_of_ble_eq_true rfl) dX8_melt_65 ⟨Nat.le_of_ble_eq_true rfl, Nat.le_of_ble_eq_true rfl⟩ ?_
              refine zf_i (x' := nI (eig (tw j))) (e8_c) ?_
              refine lv_i2l hx hb dX8_melt_68 rfl ?_
              refine zf_l (x' := lN (eig (tw j))) (nI_l (by omega)) ?_
              refine lv_ladd hx hb dX8_melt_69 ?_
              refine zf_l (x' := lN (egN tw (j + 1))) (lN_add _ _) ?_
              refine lv_lstore_n (lv' := [(2, .long (lN (egN tw (j + 1)))), (0, .ref q), (1, .int (nI p)), (4, .int (nI j))]) hx hb dX8_melt_70 rfl hl (by decide) rfl (fun ls hl => ?_)
              refine lv_iinc (v := (nI (j + 1))) (lv' := [(4, .int (nI (j + 1))), (2, .long (lN (egN tw (j + 1)))), (0, .ref q), (1, .int (nI p))]) hx hb dX8_melt_71 hl (k := 3) rfl (nI_1 j) (by decide) rfl (fun ls hl => ?_)
              refine lv_goto (tgt := 41) hx hb dX8_melt_74 (by decide) ?_
              exact ih (j + 1) (by omega) _ _ hP hD hS ls (lv_sub hl [2, 3, 1, 0] rfl)
        exact lp n0 0 (by omega) _ _ hP hD hS ls (lv_sub hl [2, 3, 1, 0] rfl)
      · exact absurd h3 (by decide)
    · exact absurd h2 (nI_ne0 hn0 (by omega))
  · exact absurd ((is_ok hp).symm.trans h1) (by decide)
set_option maxRecDepth 20000 in
theorem c_X8_melt_no (l : Launch) (D : va_G) (T : Nat → ClassId) (q a1 a2 a3 a4 a5 : Nat) (yv tw : Nat → Nat) (n0 : Nat) (nc : Int32) (ne : Bool) (th : Int32) (x : Int32) (hx0 : m_X8_is x = false) : Hm l yX8_melt cX8_melt 5 (some FieldType.int) 4 0 0 D T [.ref q, .int x] [(q, .inr (4, [.ref a1, .ref a2, .ref a3, .ref a4, .ref a5, .int (nI n0), .int nc, .int (bI ne), .int th])), (a1, .inl (T 0, 8, .inl (fun k => nI (yv k / 4)))), (a2, .inl (T 2, 8, .inl (fun k => bI (isE (yv k))))), (a3, .inl (T 2, 8, .inl (fun k => bI (isB (yv k))))), (a4, .inl (T 0, 60, .inl (fun k => nI (tw k / 4)))), (a5, .inl (T 2, 60, .inl (fun k => bI (isE (tw k)))))] (some (.int 0)) (fun _ : Unit => [(q, .inr (4, [.ref a1, .ref a2, .ref a3, .ref a4, .ref a5, .int (nI n0), .int nc, .int (bI ne), .int 1])), (a1, .inl (T 0, 8, .inl (fun k => nI (yv k / 4)))), (a2, .inl (T 2, 8, .inl (fun k => bI (isE (yv k))))), (a3, .inl (T 2, 8, .inl (fun k => bI (isB (yv k))))), (a4, .inl (T 0, 60, .inl (fun k => nI (tw k / 4)))), (a5, .inl (T 2, 60, .inl (fun k => bI (isE (tw k)))))]) := by
  refine Hm.of (by decide) (Nat.le_of_ble_eq_true rfl) ?_
  intro zp ze s zm args below zmeth zc hx hb hr hml hown hin hts hlocks A hA hP hK hD hS ls hl
  have hl : lv_has ls 5 [(0, .ref q), (1, .int x)] := hl
  refine lv_aload_n hx hb dX8_melt_0 rfl (lv_at hl 0 rfl) ?_
  refine lv_iload_n hx hb dX8_melt_1 rfl (lv_at hl 1 rfl) ?_
  refine zp_call hx hb hml hown hts k_X8_30 (c_X8_is l x) ⟨by decide, by decide⟩ rfl hl.1 [.ref q] rfl (Nat.le_of_ble_eq_true rfl) dX8_melt_2 ⟨by decide, by decide⟩ ?_
  refine zb_ne (tgt := 12) hx hb dX8_melt_5 (by decide) (fun h1 => ?_) (fun h1 => ?_)
  · exact absurd (hx0.symm.trans h1) (by decide)
  · refine lv_iconst (v := 1) hx hb dX8_melt_8 (by decide) ?_
    refine lv_goto (tgt := 24) hx hb dX8_melt_9 (by decide) ?_
    refine va_put (D := D) (ci := 4) (v := .int 1) (ty := .int) (C := RX8) (T := TX8) (N := 9) hx hb hts i_X8 tyX8 tyX8_ok nmX8 hown hK hP hD hS 0 rfl rfl 8 (by decide) (hts _ u742) (fun _ h9 => h9) rfl (by decide +kernel) rfl rfl (Nat.le_of_ble_eq_true rfl) dX8_melt_24 (fun H locs hP hD hS => ?_)
    have hP : va_P D zcl [(q, .inr (4, [.ref a1, .ref a2, .ref a3, .ref a4, .ref a5, .int (nI n0), .int nc, .int (bI ne), .int 1])), (a1, .inl (T 0, 8, .inl (fun k => nI (yv k / 4)))), (a2, .inl (T 2, 8, .inl (fun k => bI (isE (yv k))))), (a3, .inl (T 2, 8, .inl (fun k => bI (isB (yv k))))), (a4, .inl (T 0, 60, .inl (fun k => nI (tw k / 4)))), (a5, .inl (T 2, 60, .inl (fun k => bI (isE (tw k)))))] H := hP
    have hD : va_D A [(q, .inr (4, [.ref a1, .ref a2, .ref a3, .ref a4, .ref a5, .int (nI n0), .int nc, .int (bI ne), .int 1])), (a1, .inl (T 0, 8, .inl (fun k => nI (yv k / 4)))), (a2, .inl (T 2, 8, .inl (fun k => bI (isE (yv k))))), (a3, .inl (T 2, 8, .inl (fun k => bI (isB (yv k))))), (a4, .inl (T 0, 60, .inl (fun k => nI (tw k / 4)))), (a5, .inl (T 2, 60, .inl (fun k => bI (isE (tw k)))))] := hD
    refine lv_aload_n hx hb dX8_melt_27 rfl (lv_at hl 0 rfl) ?_
    refine va_get (D := D) (ci := 4) (v := .int 1) (C := RX8) (T := TX8) (N := 9) hx hb hts i_X8 hown hK hP 0 rfl rfl 8 (by decide) (hts _ u742) (fun _ h9 => h9) rfl dX8_melt_28 ?_
    refine lv_if_le (tgt := 36) hx hb dX8_melt_31 (by decide) (fun h2 => ?_) (fun h2 => ?_)
    · exact absurd h2 (by decide)
    · refine lv_iconst (v := 0) hx hb dX8_melt_34 (by decide) ?_
      exact zh_iret () hx hb hr hlocks dX8_melt_35 hP hD hS (rfl) (rfl)
set_option maxRecDepth 20000 in
theorem c_X8_melt_none (l : Launch) (D : va_G) (T : Nat → ClassId) (q a1 a2 a3 a4 a5 : Nat) (yv tw : Nat → Nat) (n0 : Nat) (nc : Int32) (ne : Bool) (th : Int32) (p : Nat) (hp : p < 8) (hn : n0 = 0) : Hm l yX8_melt cX8_melt 5 (some FieldType.int) 4 0 0 D T [.ref q, .int (nI p)] [(q, .inr (4, [.ref a1, .ref a2, .ref a3, .ref a4, .ref a5, .int (nI n0), .int nc, .int (bI ne), .int th])), (a1, .inl (T 0, 8, .inl (fun k => nI (yv k / 4)))), (a2, .inl (T 2, 8, .inl (fun k => bI (isE (yv k))))), (a3, .inl (T 2, 8, .inl (fun k => bI (isB (yv k))))), (a4, .inl (T 0, 60, .inl (fun k => nI (tw k / 4)))), (a5, .inl (T 2, 60, .inl (fun k => bI (isE (tw k)))))] (some (.int 0)) (fun _ : Unit => [(q, .inr (4, [.ref a1, .ref a2, .ref a3, .ref a4, .ref a5, .int (nI n0), .int nc, .int (bI ne), .int 2])), (a1, .inl (T 0, 8, .inl (fun k => nI (yv k / 4)))), (a2, .inl (T 2, 8, .inl (fun k => bI (isE (yv k))))), (a3, .inl (T 2, 8, .inl (fun k => bI (isB (yv k))))), (a4, .inl (T 0, 60, .inl (fun k => nI (tw k / 4)))), (a5, .inl (T 2, 60, .inl (fun k => bI (isE (tw k)))))]) := by
  refine Hm.of (by decide) (Nat.le_of_ble_eq_true rfl) ?_
  intro zp ze s zm args below zmeth zc hx hb hr hml hown hin hts hlocks A hA hP hK hD hS ls hl
  have hl : lv_has ls 5 [(0, .ref q), (1, .int (nI p))] := hl
  refine lv_aload_n hx hb dX8_melt_0 rfl (lv_at hl 0 rfl) ?_
  refine lv_iload_n hx hb dX8_melt_1 rfl (lv_at hl 1 rfl) ?_
  refine zp_call hx hb hml hown hts k_X8_30 (c_X8_is l (nI p)) ⟨by decide, by decide⟩ rfl hl.1 [.ref q] rfl (Nat.le_of_ble_eq_true rfl) dX8_melt_2 ⟨by decide, by decide⟩ ?_
  refine zb_ne (tgt := 12) hx hb dX8_melt_5 (by decide) (fun h1 => ?_) (fun h1 => ?_)
  · refine lv_aload_n hx hb dX8_melt_12 rfl (lv_at hl 0 rfl) ?_
    refine va_get (D := D) (ci := 4) (v := .int (nI n0)) (C := RX8) (T := TX8) (N := 9) hx hb hts i_X8 hown hK hP 0 rfl rfl 5 (by decide) (hts _ u739) (fun _ h9 => h9) rfl dX8_melt_13 ?_
    refine lv_if_ne (tgt := 23) hx hb dX8_melt_16 (by decide) (fun h2 => ?_) (fun h2 => ?_)
    · exact absurd (show nI n0 = 0 by rw [hn]; rfl) h2
    · refine lv_iconst (v := 2) hx hb dX8_melt_19 (by decide) ?_
      refine lv_goto (tgt := 24) hx hb dX8_melt_20 (by decide) ?_
      refine va_put (D := D) (ci := 4) (v := .int 2) (ty := .int) (C := RX8) (T := TX8) (N := 9) hx hb hts i_X8 tyX8 tyX8_ok nmX8 hown hK hP hD hS 0 rfl rfl 8 (by decide) (hts _ u742) (fun _ h9 => h9) rfl (by decide +kernel) rfl rfl (Nat.le_of_ble_eq_true rfl) dX8_melt_24 (fun H locs hP hD hS => ?_)
      have hP : va_P D zcl [(q, .inr (4, [.ref a1, .ref a2, .ref a3, .ref a4, .ref a5, .int (nI n0), .int nc, .int (bI ne), .int 2])), (a1, .inl (T 0, 8, .inl (fun k => nI (yv k / 4)))), (a2, .inl (T 2, 8, .inl (fun k => bI (isE (yv k))))), (a3, .inl (T 2, 8, .inl (fun k => bI (isB (yv k))))), (a4, .inl (T 0, 60, .inl (fun k => nI (tw k / 4)))), (a5, .inl (T 2, 60, .inl (fun k => bI (isE (tw k)))))] H := hP
      have hD : va_D A [(q, .inr (4, [.ref a1, .ref a2, .ref a3, .ref a4, .ref a5, .int (nI n0), .int nc, .int (bI ne), .int 2])), (a1, .inl (T 0, 8, .inl (fun k => nI (yv k / 4)))), (a2, .inl (T 2, 8, .inl (fun k => bI (isE (yv k))))), (a3, .inl (T 2, 8, .inl (fun k => bI (isB (yv k))))), (a4, .inl (T 0, 60, .inl (fun k => nI (tw k / 4)))), (a5, .inl (T 2, 60, .inl (fun k => bI (isE (tw k)))))] := hD
      refine lv_aload_n hx hb dX8_melt_27 rfl (lv_at hl 0 rfl) ?_
      refine va_get (D := D) (ci := 4) (v := .int 2) (C := RX8) (T := TX8) (N := 9) hx hb hts i_X8 hown hK hP 0 rfl rfl 8 (by decide) (hts _ u742) (fun _ h9 => h9) rfl dX8_melt_28 ?_
      refine lv_if_le (tgt := 36) hx hb dX8_melt_31 (by decide) (fun h3 => ?_) (fun h3 => ?_)
      · exact absurd h3 (by decide)
      · refine lv_iconst (v := 0) hx hb dX8_melt_34 (by decide) ?_
        exact zh_iret () hx hb hr hlocks dX8_melt_35 hP hD hS (rfl) (rfl)
  · exact absurd ((is_ok hp).symm.trans h1) (by decide)
set_option maxRecDepth 20000 in
theorem c_X8_isSound (l : Launch) (D : va_G) (T : Nat → ClassId) (q a1 a2 a3 a4 a5 : Nat) (yv tw : Nat → Nat) (n0 : Nat) (nc : Int32) (ne : Bool) (th : Int32)  : Hm l yX8_isSound cX8_isSound 1 (some FieldType.boolean) 0 0 0 D T [.ref q] [(q, .inr (4, [.ref a1, .ref a2, .ref a3, .ref a4, .ref a5, .int (nI n0), .int nc, .int (bI ne), .int th])), (a1, .inl (T 0, 8, .inl (fun k => nI (yv k / 4)))), (a2, .inl (T 2, 8, .inl (fun k => bI (isE (yv k))))), (a3, .inl (T 2, 8, .inl (fun k => bI (isB (yv k))))), (a4, .inl (T 0, 60, .inl (fun k => nI (tw k / 4)))), (a5, .inl (T 2, 60, .inl (fun k => bI (isE (tw k)))))] (some (.int (bI true))) (fun _ : Unit => [(q, .inr (4, [.ref a1, .ref a2, .ref a3, .ref a4, .ref a5, .int (nI n0), .int nc, .int (bI ne), .int 0])), (a1, .inl (T 0, 8, .inl (fun k => nI (yv k / 4)))), (a2, .inl (T 2, 8, .inl (fun k => bI (isE (yv k))))), (a3, .inl (T 2, 8, .inl (fun k => bI (isB (yv k))))), (a4, .inl (T 0, 60, .inl (fun k => nI (tw k / 4)))), (a5, .inl (T 2, 60, .inl (fun k => bI (isE (tw k)))))]) := by
  refine Hm.of (by decide) (Nat.le_of_ble_eq_true rfl) ?_
  intro zp ze s zm args below zmeth zc hx hb hr hml hown hin hts hlocks A hA hP hK hD hS ls hl
  have hl : lv_has ls 1 [(0, .ref q)] := hl
  refine lv_aload_n hx hb dX8_isSound_0 rfl (lv_at hl 0 rfl) ?_
  refine lv_iconst (v := 0) hx hb dX8_isSound_1 (by decide) ?_
  refine va_put (D := D) (ci := 4) (v := .int 0) (ty := .int) (C := RX8) (T := TX8) (N := 9) hx hb hts i_X8 tyX8 tyX8_ok nmX8 hown hK hP hD hS 0 rfl rfl 8 (by decide) (hts _ u742) (fun _ h9 => h9) rfl (by decide +kernel) rfl rfl (Nat.le_of_ble_eq_true rfl) dX8_isSound_2 (fun H locs hP hD hS => ?_)
  have hP : va_P D zcl [(q, .inr (4, [.ref a1, .ref a2, .ref a3, .ref a4, .ref a5, .int (nI n0), .int nc, .int (bI ne), .int 0])), (a1, .inl (T 0, 8, .inl (fun k => nI (yv k / 4)))), (a2, .inl (T 2, 8, .inl (fun k => bI (isE (yv k))))), (a3, .inl (T 2, 8, .inl (fun k => bI (isB (yv k))))), (a4, .inl (T 0, 60, .inl (fun k => nI (tw k / 4)))), (a5, .inl (T 2, 60, .inl (fun k => bI (isE (tw k)))))] H := hP
  have hD : va_D A [(q, .inr (4, [.ref a1, .ref a2, .ref a3, .ref a4, .ref a5, .int (nI n0), .int nc, .int (bI ne), .int 0])), (a1, .inl (T 0, 8, .inl (fun k => nI (yv k / 4)))), (a2, .inl (T 2, 8, .inl (fun k => bI (isE (yv k))))), (a3, .inl (T 2, 8, .inl (fun k => bI (isB (yv k))))), (a4, .inl (T 0, 60, .inl (fun k => nI (tw k / 4)))), (a5, .inl (T 2, 60, .inl (fun k => bI (isE (tw k)))))] := hD
  refine lv_iconst (v := 1) hx hb dX8_isSound_5 (by decide) ?_
  exact zh_zret () hx hb hr hlocks dX8_isSound_6 hP hD hS (rfl) (rfl)
