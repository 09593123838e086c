/-! The theorem's parts for one volume and for two. -/
theorem ed_signs {v w : Nat} (hv : v < 262144) (hw : w < 262144) (e : Nat) (he : rdC e ≤ 65535) : ((edge v ^^^ edge w) ^^^ edge (rdV e (isB v != isB w))) &&& (-9223372036854775808) = 0 := x_signs hv hw e he
theorem mt_lt (e0 : Nat) : mt e0 < 2 ^ 53 := by
  have : cbB e0 % 2 ^ 52 < 2 ^ 52 := Nat.mod_lt _ (by decide)
  unfold mt
  omega
theorem mt_ge (e0 : Nat) : 2 ^ 52 ≤ mt e0 := Nat.le_add_left _ _
theorem cube_a (e s : Nat) : e * s * s * s = e * (s * s * s) := by rw [Nat.mul_assoc, Nat.mul_assoc, Nat.mul_assoc]
theorem cube_b (m : Nat) : 1 * m * m * m = m * m * m := by rw [Nat.one_mul]
theorem cube_lt53 {m : Nat} (h : m ≤ 2 ^ 53) : 1 * m * m * m < 2 ^ 210 := by
  rw [cube_b]
  have h1 : m * m ≤ 2 ^ 53 * 2 ^ 53 := Nat.mul_le_mul h h
  have h2 : m * m * m ≤ 2 ^ 53 * 2 ^ 53 * 2 ^ 53 := Nat.mul_le_mul h1 h
  exact Nat.lt_of_le_of_lt h2 (by decide)
theorem cube_le {e k : Nat} (he : e < 1048576) (hk : k ≤ 52) : e * 2 ^ k * 2 ^ k * 2 ^ k < 2 ^ 210 := by
  have hs : 2 ^ k ≤ 2 ^ 52 := Nat.pow_le_pow_right (by decide) hk
  have h1 : e * 2 ^ k ≤ 2 ^ 20 * 2 ^ 52 := Nat.mul_le_mul (by omega) hs
  have h2 : e * 2 ^ k * 2 ^ k ≤ 2 ^ 20 * 2 ^ 52 * 2 ^ 52 := Nat.mul_le_mul h1 hs
  have h3 : e * 2 ^ k * 2 ^ k * 2 ^ k ≤ 2 ^ 20 * 2 ^ 52 * 2 ^ 52 * 2 ^ 52 := Nat.mul_le_mul h2 hs
  exact Nat.lt_of_le_of_lt h3 (by decide)
theorem sc_1 {a b : Nat} (h : a = b + 1) : -(nI a) + 1 = -(nI b) := by
  subst h
  rw [← nI_1 b, Int32.neg_add]
  rw [Int32.sub_eq_add_neg, Int32.add_assoc, Int32.add_comm (-1) 1]
  exact Int32.add_zero _
theorem sh_1 {k : Nat} (h : k < 64) : zlshl 1 (nI k) = lN (2 ^ k) := (zlshl_N 1 k h).trans (by rw [Nat.one_mul])
theorem nI_nm1 {n : Nat} (h : n < 2 ^ 31) : ¬ nI n = -1 := fun q => by
  have h1 := congrArg Int32.toInt q
  rw [nI_toInt h] at h1
  have h2 : (-1 : Int32).toInt = -1 := by decide
  omega
theorem eig_mk (c : Nat) (e b : Bool) : eig (mk c e b) = if e = true then c else 8 * c := by
  have h := mk_c c e b
  have h2 := mk_e c e b
  cases e
  · rw [eig_U h2, h]; rfl
  · rw [eig_E h2, h]; rfl
theorem eig_rd (e : Nat) (b : Bool) : eig (rdV e b) = e := by
  unfold rdV
  rw [eig_mk]
  unfold rdE rdC
  by_cases h3 : e % 8 = 0
  · rw [if_pos h3, if_pos h3, if_neg (by decide)]
    omega
  · rw [if_neg h3, if_neg h3, if_pos rfl]
theorem rdV_lt {e : Nat} (h : rdC e ≤ 65535) (b : Bool) : rdV e b < 262144 := mk_lt (by omega) _ _
theorem rdV_b (e : Nat) (b : Bool) : isB (rdV e b) = b := mk_b _ _ _
theorem oppN_lt {v : Nat} (h : v < 262144) : oppN v < 262144 := mk_lt (by omega) _ _
theorem e8N_lt {v : Nat} (h : eig v ≤ 65535) : e8N v < 262144 := mk_lt (by omega) _ _
theorem d8N_lt {v : Nat} (h : v < 262144) : d8N v < 262144 := mk_lt (by have := eig_lt h; omega) _ _
theorem sh_diff {a b c k1 k2 k3 : Nat} (h1 : k1 + a = 1075) (h2 : k2 + b = 1075) (h3 : k3 + c = 1075) (hk : k1 + k2 ≤ k3 + 1075) : (-(nI c) - -(nI a)) - -(nI b) = nI (k3 + 1075 - k1 - k2) := by
  have e : a + b = k3 + 1075 - k1 - k2 + c := by omega
  rw [Int32.sub_neg, Int32.sub_neg, Int32.add_assoc, nI_add, e, ← nI_add, Int32.add_comm, Int32.add_assoc, Int32.add_right_neg, Int32.add_zero]
theorem prod53 (a b : Nat) : mt a * mt b < 2 ^ 106 := by
  have h1 := mt_lt a
  have h2 := mt_lt b
  have h3 : mt a * mt b ≤ (2 ^ 53 - 1) * (2 ^ 53 - 1) := Nat.mul_le_mul (by omega) (by omega)
  exact Nat.lt_of_le_of_lt h3 (by decide)
theorem prod60 {a s : Nat} (hs : s < 60) : mt a * 2 ^ s < 2 ^ 113 := by
  have h1 := mt_lt a
  have h2 : 2 ^ s ≤ 2 ^ 60 := Nat.pow_le_pow_right (by decide) (by omega)
  have h3 : mt a * 2 ^ s ≤ (2 ^ 53 - 1) * 2 ^ 60 := Nat.mul_le_mul (by omega) h2
  exact Nat.lt_of_le_of_lt h3 (by decide)
theorem rd_pos {a b : Nat} (ha : ¬ a = 0) (hb : ¬ b = 0) (h8 : a * b % 8 = 0) : 0 < a * b / 8 := by
  have : 0 < a * b := Nat.mul_pos (Nat.pos_of_ne_zero ha) (Nat.pos_of_ne_zero hb)
  omega
set_option maxRecDepth 20000 in
theorem c_isBetweenCubes (l : Launch) (D : va_G) (T : Nat → ClassId) (t bl fl br fr bg fg NL NR NG : Nat) (v : Nat) (hv : v < 262144) (h0 : 0 < eig v) : Hm l yX3_isBetweenCubes cX3_isBetweenCubes 8 (some FieldType.boolean) 3 0 0 D T [.ref t, .int (nI (eig v)), .long (edge v)] [(t, .inr (0, [.ref bl, .ref br, .ref bg])), (bl, .inr (2, [.ref fl])), (fl, .inl (T 1, 7, .inr (.inl (fun i => lN (lb NL i))))), (br, .inr (2, [.ref fr])), (fr, .inl (T 1, 7, .inr (.inl (fun i => lN (lb NR i))))), (bg, .inr (2, [.ref fg])), (fg, .inl (T 1, 7, .inr (.inl (fun i => lN (lb NG i)))))] (some (.int (bI true))) (fun x : Nat × Nat × Nat => [(t, .inr (0, [.ref bl, .ref br, .ref bg])), (bl, .inr (2, [.ref fl])), (fl, .inl (T 1, 7, .inr (.inl (fun i => lN (lb x.1 i))))), (br, .inr (2, [.ref fr])), (fr, .inl (T 1, 7, .inr (.inl (fun i => lN (lb x.2.1 i))))), (bg, .inr (2, [.ref fg])), (fg, .inl (T 1, 7, .inr (.inl (fun i => lN (lb x.2.2 i)))))]) := by
  refine Hm.of (by decide) (Nat.le_of_ble_eq_true rfl) ?_
  intro zp ze s zm args below zmeth zc hx hb hr hml hown hin hts hlocks A hA hP hK hD hS ls hl
  have hl : lv_has ls 8 [(0, .ref t), (1, .int (nI (eig v))), (2, .long (edge v))] := hl
  have hvo := ed_vol hv h0
  have hq := cb_near hvo
  have e20 := eig20 hv
  have hm53 := mt_lt (eig v)
  have hm52 := mt_ge (eig v)
  have hs60 : 2 ^ (1074 - kb (eig v)) < 2 ^ 60 := Nat.pow_lt_pow_right (by decide) (by omega)
  have hb1 : eig v * (2 ^ (1074 - kb (eig v))) * (2 ^ (1074 - kb (eig v))) * (2 ^ (1074 - kb (eig v))) < 2 ^ 210 := cube_le e20 (by omega)
  have hb2 : 1 * (mt (eig v) - 1) * (mt (eig v) - 1) * (mt (eig v) - 1) < 2 ^ 210 := cube_lt53 (by omega)
  have hb3 : 1 * (mt (eig v) + 1) * (mt (eig v) + 1) * (mt (eig v) + 1) < 2 ^ 210 := cube_lt53 (by omega)
  refine lv_lload_n hx hb dX3_isBetweenCubes_0 rfl (lv_at hl 2 rfl) ?_
  refine zp_call hx hb hml hown hts k_X3_92 (c_X2_isZero l (edge v)) ⟨by decide, by decide⟩ rfl hl.1 [] rfl (Nat.le_of_ble_eq_true rfl) dX3_isBetweenCubes_1 ⟨by decide, by decide⟩ ?_
  refine zb_eq (tgt := 9) hx hb dX3_isBetweenCubes_4 (by decide) (fun h1 => ?_) (fun h1 => ?_)
  · refine lv_lconst (v := 1) hx hb dX3_isBetweenCubes_9 (by decide) ?_
    refine lv_lload_n hx hb dX3_isBetweenCubes_10 rfl (lv_at hl 2 rfl) ?_
    refine zp_call hx hb hml hown hts k_X3_96 (c_X0_scaleOf l (edge v)) ⟨by decide, by decide⟩ rfl hl.1 [.long 1] rfl (Nat.le_of_ble_eq_true rfl) dX3_isBetweenCubes_11 ⟨by decide, by decide⟩ ?_
    refine zf_i (x' := -(nI (1075 - kb (eig v)))) (ed_scale hv h0) ?_
    refine lv_iconst (v := 1) hx hb dX3_isBetweenCubes_14 (by decide) ?_
    refine lv_iadd hx hb dX3_isBetweenCubes_15 ?_
    refine zf_i (x' := -(nI (1074 - kb (eig v)))) (sc_1 (by omega)) ?_
    refine lv_ineg hx hb dX3_isBetweenCubes_16 ?_
    refine zf_i (x' := nI (1074 - kb (eig v))) (Int32.neg_neg) ?_
    refine lv_lshl hx hb dX3_isBetweenCubes_17 rfl ?_
    refine zf_l (x' := lN (2 ^ (1074 - kb (eig v)))) (sh_1 (by omega)) ?_
    refine lv_lstore (lv' := [(4, .long (lN (2 ^ (1074 - kb (eig v))))), (0, .ref t), (1, .int (nI (eig v))), (2, .long (edge v))]) hx hb dX3_isBetweenCubes_18 hl (by decide) rfl (fun ls hl => ?_)
    refine lv_lload_n hx hb dX3_isBetweenCubes_20 rfl (lv_at hl 3 rfl) ?_
    refine zp_call hx hb hml hown hts k_X3_101 (c_X0_mantissaOf l (edge v)) ⟨by decide, by decide⟩ rfl hl.1 [] rfl (Nat.le_of_ble_eq_true rfl) dX3_isBetweenCubes_21 ⟨by decide, by decide⟩ ?_
    refine zf_l (x' := lN (mt (eig v))) (ed_mant hv h0) ?_
    refine lv_lstore (lv' := [(6, .long (lN (mt (eig v)))), (4, .long (lN (2 ^ (1074 - kb (eig v))))), (0, .ref t), (1, .int (nI (eig v))), (2, .long (edge v))]) hx hb dX3_isBetweenCubes_24 hl (by decide) rfl (fun ls hl => ?_)
    refine lv_aload_n hx hb dX3_isBetweenCubes_26 rfl (lv_at hl 2 rfl) ?_
    refine va_get (D := D) (ci := 0) (v := .ref bl) (C := RX3) (T := TX3) (N := 3) hx hb hts i_X3 hown hK hP 0 rfl rfl 0 (by decide) (hts _ u80) (fun _ h9 => h9) rfl dX3_isBetweenCubes_27 ?_
    refine lv_iload_n hx hb dX3_isBetweenCubes_30 rfl (lv_at hl 3 rfl) ?_
    refine lv_i2l hx hb dX3_isBetweenCubes_31 rfl ?_
    refine zf_l (x' := lN (eig v)) (nI_l (by omega)) ?_
    refine lv_lload hx hb dX3_isBetweenCubes_32 (lv_at hl 1 rfl) ?_
    refine zh_v (T := T) hx hb hml hown hts k_X3_104 (c_X6_setCube l D T bl fl NL (eig v) (2 ^ (1074 - kb (eig v))) (by omega) (by omega)) ⟨by decide, by decide⟩ rfl hl.1 [] rfl (Nat.le_of_ble_eq_true rfl) dX3_isBetweenCubes_34 ⟨Nat.le_of_ble_eq_true rfl, Nat.le_of_ble_eq_true rfl⟩ hK hP hD hS hA (ci := 2) rfl rfl rfl [1, 2] [0, 3, 4, 5, 6] (wr := [(t, .inr (0, [.ref bl, .ref br, .ref bg])), (br, .inr (2, [.ref fr])), (fr, .inl (T 1, 7, .inr (.inl (fun i => lN (lb NR i))))), (bg, .inr (2, [.ref fg])), (fg, .inl (T 1, 7, .inr (.inl (fun i => lN (lb NG i)))))]) rfl rfl (by decide) (by decide) (by decide) [0, 5, 6, 1, 2, 3, 4] (fun _ => [(t, .inr (0, [.ref bl, .ref br, .ref bg])), (bl, .inr (2, [.ref fl])), (fl, .inl (T 1, 7, .inr (.inl (fun i => lN (lb ((eig v) * (2 ^ (1074 - kb (eig v))) * (2 ^ (1074 - kb (eig v))) * (2 ^ (1074 - kb (eig v)))) i))))), (br, .inr (2, [.ref fr])), (fr, .inl (T 1, 7, .inr (.inl (fun i => lN (lb NR i))))), (bg, .inr (2, [.ref fg])), (fg, .inl (T 1, 7, .inr (.inl (fun i => lN (lb NG i)))))]) (by decide) (fun _ => rfl) (fun _ H locs hP hD hS => ?_)
    have hP : va_P D zcl [(t, .inr (0, [.ref bl, .ref br, .ref bg])), (bl, .inr (2, [.ref fl])), (fl, .inl (T 1, 7, .inr (.inl (fun i => lN (lb ((eig v) * (2 ^ (1074 - kb (eig v))) * (2 ^ (1074 - kb (eig v))) * (2 ^ (1074 - kb (eig v)))) i))))), (br, .inr (2, [.ref fr])), (fr, .inl (T 1, 7, .inr (.inl (fun i => lN (lb NR i))))), (bg, .inr (2, [.ref fg])), (fg, .inl (T 1, 7, .inr (.inl (fun i => lN (lb NG i)))))] H := hP
    have hD : va_D A [(t, .inr (0, [.ref bl, .ref br, .ref bg])), (bl, .inr (2, [.ref fl])), (fl, .inl (T 1, 7, .inr (.inl (fun i => lN (lb ((eig v) * (2 ^ (1074 - kb (eig v))) * (2 ^ (1074 - kb (eig v))) * (2 ^ (1074 - kb (eig v)))) i))))), (br, .inr (2, [.ref fr])), (fr, .inl (T 1, 7, .inr (.inl (fun i => lN (lb NR i))))), (bg, .inr (2, [.ref fg])), (fg, .inl (T 1, 7, .inr (.inl (fun i => lN (lb NG i)))))] := hD
    refine lv_aload_n hx hb dX3_isBetweenCubes_37 rfl (lv_at hl 2 rfl) ?_
    refine va_get (D := D) (ci := 0) (v := .ref br) (C := RX3) (T := TX3) (N := 3) hx hb hts i_X3 hown hK hP 0 rfl rfl 1 (by decide) (hts _ u81) (fun _ h9 => h9) rfl dX3_isBetweenCubes_38 ?_
    refine lv_lconst (v := 1) hx hb dX3_isBetweenCubes_41 (by decide) ?_
    refine zf_l (x' := lN 1) (rfl) ?_
    refine lv_lload hx hb dX3_isBetweenCubes_42 (lv_at hl 0 rfl) ?_
    refine lv_lconst (v := 1) hx hb dX3_isBetweenCubes_44 (by decide) ?_
    refine zf_l (x' := lN 1) (rfl) ?_
    refine lv_lsub hx hb dX3_isBetweenCubes_45 ?_
    refine zf_l (x' := lN (mt (eig v) - 1)) (lN_sub (by omega)) ?_
    refine zh_v (T := T) hx hb hml hown hts k_X3_104 (c_X6_setCube l D T br fr NR 1 (mt (eig v) - 1) (by omega) (by omega)) ⟨by decide, by decide⟩ rfl hl.1 [] rfl (Nat.le_of_ble_eq_true rfl) dX3_isBetweenCubes_46 ⟨Nat.le_of_ble_eq_true rfl, Nat.le_of_ble_eq_true rfl⟩ hK hP hD hS hA (ci := 2) rfl rfl rfl [3, 4] [0, 1, 2, 5, 6] (wr := [(t, .inr (0, [.ref bl, .ref br, .ref bg])), (bl, .inr (2, [.ref fl])), (fl, .inl (T 1, 7, .inr (.inl (fun i => lN (lb ((eig v) * (2 ^ (1074 - kb (eig v))) * (2 ^ (1074 - kb (eig v))) * (2 ^ (1074 - kb (eig v)))) i))))), (bg, .inr (2, [.ref fg])), (fg, .inl (T 1, 7, .inr (.inl (fun i => lN (lb NG i)))))]) rfl rfl (by decide) (by decide) (by decide) [0, 1, 2, 5, 6, 3, 4] (fun _ => [(t, .inr (0, [.ref bl, .ref br, .ref bg])), (bl, .inr (2, [.ref fl])), (fl, .inl (T 1, 7, .inr (.inl (fun i => lN (lb ((eig v) * (2 ^ (1074 - kb (eig v))) * (2 ^ (1074 - kb (eig v))) * (2 ^ (1074 - kb (eig v)))) i))))), (br, .inr (2, [.ref fr])), (fr, .inl (T 1, 7, .inr (.inl (fun i => lN (lb (1 * (mt (eig v) - 1) * (mt (eig v) - 1) * (mt (eig v) - 1)) i))))), (bg, .inr (2, [.ref fg])), (fg, .inl (T 1, 7, .inr (.inl (fun i => lN (lb NG i)))))]) (by decide) (fun _ => rfl) (fun _ H locs hP hD hS => ?_)
    have hP : va_P D zcl [(t, .inr (0, [.ref bl, .ref br, .ref bg])), (bl, .inr (2, [.ref fl])), (fl, .inl (T 1, 7, .inr (.inl (fun i => lN (lb ((eig v) * (2 ^ (1074 - kb (eig v))) * (2 ^ (1074 - kb (eig v))) * (2 ^ (1074 - kb (eig v)))) i))))), (br, .inr (2, [.ref fr])), (fr, .inl (T 1, 7, .inr (.inl (fun i => lN (lb (1 * (mt (eig v) - 1) * (mt (eig v) - 1) * (mt (eig v) - 1)) i))))), (bg, .inr (2, [.ref fg])), (fg, .inl (T 1, 7, .inr (.inl (fun i => lN (lb NG i)))))] H := hP
    have hD : va_D A [(t, .inr (0, [.ref bl, .ref br, .ref bg])), (bl, .inr (2, [.ref fl])), (fl, .inl (T 1, 7, .inr (.inl (fun i => lN (lb ((eig v) * (2 ^ (1074 - kb (eig v))) * (2 ^ (1074 - kb (eig v))) * (2 ^ (1074 - kb (eig v)))) i))))), (br, .inr (2, [.ref fr])), (fr, .inl (T 1, 7, .inr (.inl (fun i => lN (lb (1 * (mt (eig v) - 1) * (mt (eig v) - 1) * (mt (eig v) - 1)) i))))), (bg, .inr (2, [.ref fg])), (fg, .inl (T 1, 7, .inr (.inl (fun i => lN (lb NG i)))))] := hD
    refine lv_aload_n hx hb dX3_isBetweenCubes_49 rfl (lv_at hl 2 rfl) ?_
    refine va_get (D := D) (ci := 0) (v := .ref br) (C := RX3) (T := TX3) (N := 3) hx hb hts i_X3 hown hK hP 0 rfl rfl 1 (by decide) (hts _ u81) (fun _ h9 => h9) rfl dX3_isBetweenCubes_50 ?_
    refine lv_aload_n hx hb dX3_isBetweenCubes_53 rfl (lv_at hl 2 rfl) ?_
    refine va_get (D := D) (ci := 0) (v := .ref bl) (C := RX3) (T := TX3) (N := 3) hx hb hts i_X3 hown hK hP 0 rfl rfl 0 (by decide) (hts _ u80) (fun _ h9 => h9) rfl dX3_isBetweenCubes_54 ?_
    refine zh_v (T := T) hx hb hml hown hts k_X3_108 (c_X6_isLess l D T br fr bl fl (1 * (mt (eig v) - 1) * (mt (eig v) - 1) * (mt (eig v) - 1)) ((eig v) * (2 ^ (1074 - kb (eig v))) * (2 ^ (1074 - kb (eig v))) * (2 ^ (1074 - kb (eig v)))) (hb2) (hb1)) ⟨by decide, by decide⟩ rfl hl.1 [] rfl (Nat.le_of_ble_eq_true rfl) dX3_isBetweenCubes_57 ⟨Nat.le_of_ble_eq_true rfl, Nat.le_of_ble_eq_true rfl⟩ hK hP hD hS hA (ci := 2) rfl rfl rfl [3, 4, 1, 2] [0, 5, 6] (wr := [(t, .inr (0, [.ref bl, .ref br, .ref bg])), (bg, .inr (2, [.ref fg])), (fg, .inl (T 1, 7, .inr (.inl (fun i => lN (lb NG i)))))]) rfl rfl (by decide) (by decide) (by decide) [0, 5, 6, 3, 4, 1, 2] (fun _ => [(t, .inr (0, [.ref bl, .ref br, .ref bg])), (bl, .inr (2, [.ref fl])), (fl, .inl (T 1, 7, .inr (.inl (fun i => lN (lb ((eig v) * (2 ^ (1074 - kb (eig v))) * (2 ^ (1074 - kb (eig v))) * (2 ^ (1074 - kb (eig v)))) i))))), (br, .inr (2, [.ref fr])), (fr, .inl (T 1, 7, .inr (.inl (fun i => lN (lb (1 * (mt (eig v) - 1) * (mt (eig v) - 1) * (mt (eig v) - 1)) i))))), (bg, .inr (2, [.ref fg])), (fg, .inl (T 1, 7, .inr (.inl (fun i => lN (lb NG i)))))]) (by decide) (fun _ => rfl) (fun _ H locs hP hD hS => ?_)
    have hP : va_P D zcl [(t, .inr (0, [.ref bl, .ref br, .ref bg])), (bl, .inr (2, [.ref fl])), (fl, .inl (T 1, 7, .inr (.inl (fun i => lN (lb ((eig v) * (2 ^ (1074 - kb (eig v))) * (2 ^ (1074 - kb (eig v))) * (2 ^ (1074 - kb (eig v)))) i))))), (br, .inr (2, [.ref fr])), (fr, .inl (T 1, 7, .inr (.inl (fun i => lN (lb (1 * (mt (eig v) - 1) * (mt (eig v) - 1) * (mt (eig v) - 1)) i))))), (bg, .inr (2, [.ref fg])), (fg, .inl (T 1, 7, .inr (.inl (fun i => lN (lb NG i)))))] H := hP
    have hD : va_D A [(t, .inr (0, [.ref bl, .ref br, .ref bg])), (bl, .inr (2, [.ref fl])), (fl, .inl (T 1, 7, .inr (.inl (fun i => lN (lb ((eig v) * (2 ^ (1074 - kb (eig v))) * (2 ^ (1074 - kb (eig v))) * (2 ^ (1074 - kb (eig v)))) i))))), (br, .inr (2, [.ref fr])), (fr, .inl (T 1, 7, .inr (.inl (fun i => lN (lb (1 * (mt (eig v) - 1) * (mt (eig v) - 1) * (mt (eig v) - 1)) i))))), (bg, .inr (2, [.ref fg])), (fg, .inl (T 1, 7, .inr (.inl (fun i => lN (lb NG i)))))] := hD
    refine zf_z (x' := true) (congrArg bI (decide_eq_true (by rw [cube_b, cube_a]; exact hq.2.2.1))) ?_
    refine zb_ne (tgt := 65) hx hb dX3_isBetweenCubes_60 (by decide) (fun h2 => ?_) (fun h2 => ?_)
    · refine lv_aload_n hx hb dX3_isBetweenCubes_65 rfl (lv_at hl 2 rfl) ?_
      refine va_get (D := D) (ci := 0) (v := .ref br) (C := RX3) (T := TX3) (N := 3) hx hb hts i_X3 hown hK hP 0 rfl rfl 1 (by decide) (hts _ u81) (fun _ h9 => h9) rfl dX3_isBetweenCubes_66 ?_
      refine lv_lconst (v := 1) hx hb dX3_isBetweenCubes_69 (by decide) ?_
      refine zf_l (x' := lN 1) (rfl) ?_
      refine lv_lload hx hb dX3_isBetweenCubes_70 (lv_at hl 0 rfl) ?_
      refine lv_lconst (v := 1) hx hb dX3_isBetweenCubes_72 (by decide) ?_
      refine zf_l (x' := lN 1) (rfl) ?_
      refine lv_ladd hx hb dX3_isBetweenCubes_73 ?_
      refine zf_l (x' := lN (mt (eig v) + 1)) (lN_add (mt (eig v)) 1) ?_
      refine zh_v (T := T) hx hb hml hown hts k_X3_104 (c_X6_setCube l D T br fr (1 * (mt (eig v) - 1) * (mt (eig v) - 1) * (mt (eig v) - 1)) 1 (mt (eig v) + 1) (by omega) (by omega)) ⟨by decide, by decide⟩ rfl hl.1 [] rfl (Nat.le_of_ble_eq_true rfl) dX3_isBetweenCubes_74 ⟨Nat.le_of_ble_eq_true rfl, Nat.le_of_ble_eq_true rfl⟩ hK hP hD hS hA (ci := 2) rfl rfl rfl [3, 4] [0, 1, 2, 5, 6] (wr := [(t, .inr (0, [.ref bl, .ref br, .ref bg])), (bl, .inr (2, [.ref fl])), (fl, .inl (T 1, 7, .inr (.inl (fun i => lN (lb ((eig v) * (2 ^ (1074 - kb (eig v))) * (2 ^ (1074 - kb (eig v))) * (2 ^ (1074 - kb (eig v)))) i))))), (bg, .inr (2, [.ref fg])), (fg, .inl (T 1, 7, .inr (.inl (fun i => lN (lb NG i)))))]) rfl rfl (by decide) (by decide) (by decide) [0, 1, 2, 5, 6, 3, 4] (fun _ => [(t, .inr (0, [.ref bl, .ref br, .ref bg])), (bl, .inr (2, [.ref fl])), (fl, .inl (T 1, 7, .inr (.inl (fun i => lN (lb ((eig v) * (2 ^ (1074 - kb (eig v))) * (2 ^ (1074 - kb (eig v))) * (2 ^ (1074 - kb (eig v)))) i))))), (br, .inr (2, [.ref fr])), (fr, .inl (T 1, 7, .inr (.inl (fun i => lN (lb (1 * (mt (eig v) + 1) * (mt (eig v) + 1) * (mt (eig v) + 1)) i))))), (bg, .inr (2, [.ref fg])), (fg, .inl (T 1, 7, .inr (.inl (fun i => lN (lb NG i)))))]) (by decide) (fun _ => rfl) (fun _ H locs hP hD hS => ?_)
      have hP : va_P D zcl [(t, .inr (0, [.ref bl, .ref br, .ref bg])), (bl, .inr (2, [.ref fl])), (fl, .inl (T 1, 7, .inr (.inl (fun i => lN (lb ((eig v) * (2 ^ (1074 - kb (eig v))) * (2 ^ (1074 - kb (eig v))) * (2 ^ (1074 - kb (eig v)))) i))))), (br, .inr (2, [.ref fr])), (fr, .inl (T 1, 7, .inr (.inl (fun i => lN (lb (1 * (mt (eig v) + 1) * (mt (eig v) + 1) * (mt (eig v) + 1)) i))))), (bg, .inr (2, [.ref fg])), (fg, .inl (T 1, 7, .inr (.inl (fun i => lN (lb NG i)))))] H := hP
      have hD : va_D A [(t, .inr (0, [.ref bl, .ref br, .ref bg])), (bl, .inr (2, [.ref fl])), (fl, .inl (T 1, 7, .inr (.inl (fun i => lN (lb ((eig v) * (2 ^ (1074 - kb (eig v))) * (2 ^ (1074 - kb (eig v))) * (2 ^ (1074 - kb (eig v)))) i))))), (br, .inr (2, [.ref fr])), (fr, .inl (T 1, 7, .inr (.inl (fun i => lN (lb (1 * (mt (eig v) + 1) * (mt (eig v) + 1) * (mt (eig v) + 1)) i))))), (bg, .inr (2, [.ref fg])), (fg, .inl (T 1, 7, .inr (.inl (fun i => lN (lb NG i)))))] := hD
      refine lv_aload_n hx hb dX3_isBetweenCubes_77 rfl (lv_at hl 2 rfl) ?_
      refine va_get (D := D) (ci := 0) (v := .ref bl) (C := RX3) (T := TX3) (N := 3) hx hb hts i_X3 hown hK hP 0 rfl rfl 0 (by decide) (hts _ u80) (fun _ h9 => h9) rfl dX3_isBetweenCubes_78 ?_
      refine lv_aload_n hx hb dX3_isBetweenCubes_81 rfl (lv_at hl 2 rfl) ?_
      refine va_get (D := D) (ci := 0) (v := .ref br) (C := RX3) (T := TX3) (N := 3) hx hb hts i_X3 hown hK hP 0 rfl rfl 1 (by decide) (hts _ u81) (fun _ h9 => h9) rfl dX3_isBetweenCubes_82 ?_
      refine zh_v (T := T) hx hb hml hown hts k_X3_108 (c_X6_isLess l D T bl fl br fr ((eig v) * (2 ^ (1074 - kb (eig v))) * (2 ^ (1074 - kb (eig v))) * (2 ^ (1074 - kb (eig v)))) (1 * (mt (eig v) + 1) * (mt (eig v) + 1) * (mt (eig v) + 1)) (hb1) (hb3)) ⟨by decide, by decide⟩ rfl hl.1 [] rfl (Nat.le_of_ble_eq_true rfl) dX3_isBetweenCubes_85 ⟨Nat.le_of_ble_eq_true rfl, Nat.le_of_ble_eq_true rfl⟩ hK hP hD hS hA (ci := 2) rfl rfl rfl [1, 2, 3, 4] [0, 5, 6] (wr := [(t, .inr (0, [.ref bl, .ref br, .ref bg])), (bg, .inr (2, [.ref fg])), (fg, .inl (T 1, 7, .inr (.inl (fun i => lN (lb NG i)))))]) rfl rfl (by decide) (by decide) (by decide) [0, 3, 4, 5, 6, 1, 2] (fun _ => [(t, .inr (0, [.ref bl, .ref br, .ref bg])), (bl, .inr (2, [.ref fl])), (fl, .inl (T 1, 7, .inr (.inl (fun i => lN (lb ((eig v) * (2 ^ (1074 - kb (eig v))) * (2 ^ (1074 - kb (eig v))) * (2 ^ (1074 - kb (eig v)))) i))))), (br, .inr (2, [.ref fr])), (fr, .inl (T 1, 7, .inr (.inl (fun i => lN (lb (1 * (mt (eig v) + 1) * (mt (eig v) + 1) * (mt (eig v) + 1)) i))))), (bg, .inr (2, [.ref fg])), (fg, .inl (T 1, 7, .inr (.inl (fun i => lN (lb NG i)))))]) (by decide) (fun _ => rfl) (fun _ H locs hP hD hS => ?_)
      have hP : va_P D zcl [(t, .inr (0, [.ref bl, .ref br, .ref bg])), (bl, .inr (2, [.ref fl])), (fl, .inl (T 1, 7, .inr (.inl (fun i => lN (lb ((eig v) * (2 ^ (1074 - kb (eig v))) * (2 ^ (1074 - kb (eig v))) * (2 ^ (1074 - kb (eig v)))) i))))), (br, .inr (2, [.ref fr])), (fr, .inl (T 1, 7, .inr (.inl (fun i => lN (lb (1 * (mt (eig v) + 1) * (mt (eig v) + 1) * (mt (eig v) + 1)) i))))), (bg, .inr (2, [.ref fg])), (fg, .inl (T 1, 7, .inr (.inl (fun i => lN (lb NG i)))))] H := hP
      have hD : va_D A [(t, .inr (0, [.ref bl, .ref br, .ref bg])), (bl, .inr (2, [.ref fl])), (fl, .inl (T 1, 7, .inr (.inl (fun i => lN (lb ((eig v) * (2 ^ (1074 - kb (eig v))) * (2 ^ (1074 - kb (eig v))) * (2 ^ (1074 - kb (eig v)))) i))))), (br, .inr (2, [.ref fr])), (fr, .inl (T 1, 7, .inr (.inl (fun i => lN (lb (1 * (mt (eig v) + 1) * (mt (eig v) + 1) * (mt (eig v) + 1)) i))))), (bg, .inr (2, [.ref fg])), (fg, .inl (T 1, 7, .inr (.inl (fun i => lN (lb NG i)))))] := hD
      refine zf_z (x' := true) (congrArg bI (decide_eq_true (by rw [cube_b, cube_a]; exact hq.2.2.2))) ?_
      exact zh_zret (((eig v) * (2 ^ (1074 - kb (eig v))) * (2 ^ (1074 - kb (eig v))) * (2 ^ (1074 - kb (eig v)))), (1 * (mt (eig v) + 1) * (mt (eig v) + 1) * (mt (eig v) + 1)), NG) hx hb hr hlocks dX3_isBetweenCubes_88 hP hD hS (rfl) (rfl)
    · exact absurd h2 (by decide)
  · exact absurd (((ed_isZero hv).trans (decide_eq_false (by omega))).symm.trans h1) (by decide)
set_option maxRecDepth 20000 in
theorem c_holdsOf (l : Launch) (D : va_G) (T : Nat → ClassId) (t bl fl br fr bg fg NL NR NG : Nat) (v : Nat) (hv : v < 262144) : Hm l yX3_holdsOf cX3_holdsOf 6 (some FieldType.boolean) 5 0 0 D T [.ref t, .int (nI v), .long (edge v)] [(t, .inr (0, [.ref bl, .ref br, .ref bg])), (bl, .inr (2, [.ref fl])), (fl, .inl (T 1, 7, .inr (.inl (fun i => lN (lb NL i))))), (br, .inr (2, [.ref fr])), (fr, .inl (T 1, 7, .inr (.inl (fun i => lN (lb NR i))))), (bg, .inr (2, [.ref fg])), (fg, .inl (T 1, 7, .inr (.inl (fun i => lN (lb NG i)))))] (some (.int (bI true))) (fun x : Nat × Nat × Nat => [(t, .inr (0, [.ref bl, .ref br, .ref bg])), (bl, .inr (2, [.ref fl])), (fl, .inl (T 1, 7, .inr (.inl (fun i => lN (lb x.1 i))))), (br, .inr (2, [.ref fr])), (fr, .inl (T 1, 7, .inr (.inl (fun i => lN (lb x.2.1 i))))), (bg, .inr (2, [.ref fg])), (fg, .inl (T 1, 7, .inr (.inl (fun i => lN (lb x.2.2 i)))))]) := by
  refine Hm.of (by decide) (Nat.le_of_ble_eq_true rfl) ?_
  intro zp ze s zm args below zmeth zc hx hb hr hml hown hin hts hlocks A hA hP hK hD hS ls hl
  have hl : lv_has ls 6 [(0, .ref t), (1, .int (nI v)), (2, .long (edge v))] := hl
  have e20 := eig20 hv
  refine lv_lload_n hx hb dX3_holdsOf_0 rfl (lv_at hl 2 rfl) ?_
  refine lv_iload_n hx hb dX3_holdsOf_1 rfl (lv_at hl 1 rfl) ?_
  refine zp_call hx hb hml hown hts k_X3_22 (c_X5_oppositeOf l (nI v)) ⟨by decide, by decide⟩ rfl hl.1 [.long (edge v)] rfl (Nat.le_of_ble_eq_true rfl) dX3_holdsOf_2 ⟨by decide, by decide⟩ ?_
  refine zf_i (x' := nI (oppN v)) (mv_opp hv) ?_
  refine zp_call hx hb hml hown hts k_X3_28 (c_ofVolume l (oppN v) (oppN_lt hv)) ⟨by decide, by decide⟩ rfl hl.1 [.long (edge v)] rfl (Nat.le_of_ble_eq_true rfl) dX3_holdsOf_5 ⟨Nat.le_of_ble_eq_true rfl, Nat.le_of_ble_eq_true rfl⟩ ?_
  refine zp_call hx hb hml hown hts k_X3_34 (c_X3_isOpposite l (edge v) (edge (oppN v))) ⟨by decide, by decide⟩ rfl hl.1 [] rfl (Nat.le_of_ble_eq_true rfl) dX3_holdsOf_8 ⟨by decide, by decide⟩ ?_
  refine zf_z (x' := true) (congrArg bI (ed_opp hv)) ?_
  refine zb_ne (tgt := 16) hx hb dX3_holdsOf_11 (by decide) (fun h1 => ?_) (fun h1 => ?_)
  · by_cases hq : eig v ≤ 65535
    · refine lv_iload_n hx hb dX3_holdsOf_16 rfl (lv_at hl 1 rfl) ?_
      refine zp_call hx hb hml hown hts k_X3_38 (c_X5_eightfoldOf l (nI v)) ⟨by decide, by decide⟩ rfl hl.1 [] rfl (Nat.le_of_ble_eq_true rfl) dX3_holdsOf_17 ⟨by decide, by decide⟩ ?_
      refine zf_i (x' := nI (e8N v)) ((mv_e8 hv).trans (if_pos hq)) ?_
      refine lv_istore (lv' := [(4, .int (nI (e8N v))), (0, .ref t), (1, .int (nI v)), (2, .long (edge v))]) hx hb dX3_holdsOf_20 hl (by decide) rfl (fun ls hl => ?_)
      refine lv_iload hx hb dX3_holdsOf_22 (lv_at hl 0 rfl) ?_
      refine lv_iconst (v := (-1)) hx hb dX3_holdsOf_24 (by decide) ?_
      refine lv_icmp_eq (tgt := 42) hx hb dX3_holdsOf_25 (by decide) (fun h2 => ?_) (fun h2 => ?_)
      · exact absurd h2 (nI_nm1 (by have := e8N_lt hq; omega))
      · refine lv_lload_n hx hb dX3_holdsOf_28 rfl (lv_at hl 3 rfl) ?_
        refine lv_iload hx hb dX3_holdsOf_29 (lv_at hl 0 rfl) ?_
        refine zp_call hx hb hml hown hts k_X3_28 (c_ofVolume l (e8N v) (e8N_lt hq)) ⟨by decide, by decide⟩ rfl hl.1 [.long (edge v)] rfl (Nat.le_of_ble_eq_true rfl) dX3_holdsOf_31 ⟨Nat.le_of_ble_eq_true rfl, Nat.le_of_ble_eq_true rfl⟩ ?_
        refine zp_call hx hb hml hown hts k_X3_41 (c_X3_isTwice l (edge v) (edge (e8N v))) ⟨by decide, by decide⟩ rfl hl.1 [] rfl (Nat.le_of_ble_eq_true rfl) dX3_holdsOf_34 ⟨by decide, by decide⟩ ?_
        refine zf_z (x' := true) (congrArg bI (ed_e8 hv hq)) ?_
        refine zb_ne (tgt := 42) hx hb dX3_holdsOf_37 (by decide) (fun h3 => ?_) (fun h3 => ?_)
        · refine lv_iload_n hx hb dX3_holdsOf_42 rfl (lv_at hl 2 rfl) ?_
          refine zp_call hx hb hml hown hts k_X3_44 (c_X5_eighthsOf l (nI v)) ⟨by decide, by decide⟩ rfl hl.1 [] rfl (Nat.le_of_ble_eq_true rfl) dX3_holdsOf_43 ⟨Nat.le_of_ble_eq_true rfl, Nat.le_of_ble_eq_true rfl⟩ ?_
          refine zf_i (x' := nI (eig v)) (mv_eig hv) ?_
          refine lv_istore (lv' := [(5, .int (nI (eig v))), (4, .int (nI (e8N v))), (0, .ref t), (1, .int (nI v)), (2, .long (edge v))]) hx hb dX3_holdsOf_46 hl (by decide) rfl (fun ls hl => ?_)
          refine lv_iload hx hb dX3_holdsOf_48 (lv_at hl 0 rfl) ?_
          refine lv_if_le (tgt := 65) hx hb dX3_holdsOf_50 (by decide) (fun h4 => ?_) (fun h4 => ?_)
          · refine lv_lload_n hx hb dX3_holdsOf_65 rfl (lv_at hl 4 rfl) ?_
            refine zp_call hx hb hml hown hts k_X3_51 (c_X2_wholeOf l (edge v)) ⟨by decide, by decide⟩ rfl hl.1 [] rfl (Nat.le_of_ble_eq_true rfl) dX3_holdsOf_66 ⟨by decide, by decide⟩ ?_
            refine zf_i (x' := fI v / 1024) (show m_X2_fineOf (edge v) / 1024 = _ by rw [ed_fine hv]) ?_
            refine zp_call hx hb hml hown hts k_X3_55 (c_isRootOfItsCube l v (hv)) ⟨by decide, by decide⟩ rfl hl.1 [] rfl (Nat.le_of_ble_eq_true rfl) dX3_holdsOf_69 ⟨Nat.le_of_ble_eq_true rfl, Nat.le_of_ble_eq_true rfl⟩ ?_
            refine zb_eq (tgt := 91) hx hb dX3_holdsOf_72 (by decide) (fun h5 => ?_) (fun h5 => ?_)
            · exact absurd h5 (by decide)
            · refine lv_iload hx hb dX3_holdsOf_75 (lv_at hl 0 rfl) ?_
              refine lv_lload_n hx hb dX3_holdsOf_77 rfl (lv_at hl 4 rfl) ?_
              refine zp_call hx hb hml hown hts k_X3_59 (c_X2_withoutSign l (edge v)) ⟨by decide, by decide⟩ rfl hl.1 [.int (nI (eig v))] rfl (Nat.le_of_ble_eq_true rfl) dX3_holdsOf_78 ⟨by decide, by decide⟩ ?_
              refine zp_call hx hb hml hown hts k_X3_63 (c_X3_isFine l (nI (eig v)) (m_X2_withoutSign (edge v))) ⟨by decide, by decide⟩ rfl hl.1 [] rfl (Nat.le_of_ble_eq_true rfl) dX3_holdsOf_81 ⟨by decide, by decide⟩ ?_
              refine zf_z (x' := true) (congrArg bI (ed_isfine hv)) ?_
              refine zb_eq (tgt := 91) hx hb dX3_holdsOf_84 (by decide) (fun h6 => ?_) (fun h6 => ?_)
              · exact absurd h6 (by decide)
              · refine lv_iconst (v := 1) hx hb dX3_holdsOf_87 (by decide) ?_
                refine lv_goto (tgt := 92) hx hb dX3_holdsOf_88 (by decide) ?_
                exact zh_zret (NL, NR, NG) hx hb hr hlocks dX3_holdsOf_92 hP hD hS (rfl) (rfl)
          · refine lv_aload_n hx hb dX3_holdsOf_53 rfl (lv_at hl 2 rfl) ?_
            refine lv_iload hx hb dX3_holdsOf_54 (lv_at hl 0 rfl) ?_
            refine lv_lload_n hx hb dX3_holdsOf_56 rfl (lv_at hl 4 rfl) ?_
            refine zh_v (T := T) hx hb hml hown hts k_X3_47 (c_isBetweenCubes l D T t bl fl br fr bg fg NL NR NG v (hv) (Nat.pos_of_ne_zero fun q => h4 (by rw [q]; decide))) ⟨by decide, by decide⟩ rfl hl.1 [] rfl (Nat.le_of_ble_eq_true rfl) dX3_holdsOf_57 ⟨Nat.le_of_ble_eq_true rfl, Nat.le_of_ble_eq_true rfl⟩ hK hP hD hS hA (ci := 0) rfl rfl rfl [0, 1, 2, 3, 4, 5, 6] [] (wr := []) rfl rfl (by decide) (by decide) (by decide) [0, 1, 2, 3, 4, 5, 6] (fun x1 => [(t, .inr (0, [.ref bl, .ref br, .ref bg])), (bl, .inr (2, [.ref fl])), (fl, .inl (T 1, 7, .inr (.inl (fun i => lN (lb x1.1 i))))), (br, .inr (2, [.ref fr])), (fr, .inl (T 1, 7, .inr (.inl (fun i => lN (lb x1.2.1 i))))), (bg, .inr (2, [.ref fg])), (fg, .inl (T 1, 7, .inr (.inl (fun i => lN (lb x1.2.2 i)))))]) (by decide) (fun _ => rfl) (fun x1 H locs hP hD hS => ?_)
            have hP : va_P D zcl [(t, .inr (0, [.ref bl, .ref br, .ref bg])), (bl, .inr (2, [.ref fl])), (fl, .inl (T 1, 7, .inr (.inl (fun i => lN (lb x1.1 i))))), (br, .inr (2, [.ref fr])), (fr, .inl (T 1, 7, .inr (.inl (fun i => lN (lb x1.2.1 i))))), (bg, .inr (2, [.ref fg])), (fg, .inl (T 1, 7, .inr (.inl (fun i => lN (lb x1.2.2 i)))))] H := hP
            have hD : va_D A [(t, .inr (0, [.ref bl, .ref br, .ref bg])), (bl, .inr (2, [.ref fl])), (fl, .inl (T 1, 7, .inr (.inl (fun i => lN (lb x1.1 i))))), (br, .inr (2, [.ref fr])), (fr, .inl (T 1, 7, .inr (.inl (fun i => lN (lb x1.2.1 i))))), (bg, .inr (2, [.ref fg])), (fg, .inl (T 1, 7, .inr (.inl (fun i => lN (lb x1.2.2 i)))))] := hD
            refine zb_ne (tgt := 65) hx hb dX3_holdsOf_60 (by decide) (fun h7 => ?_) (fun h7 => ?_)
            · refine lv_lload_n hx hb dX3_holdsOf_65 rfl (lv_at hl 4 rfl) ?_
              refine zp_call hx hb hml hown hts k_X3_51 (c_X2_wholeOf l (edge v)) ⟨by decide, by decide⟩ rfl hl.1 [] rfl (Nat.le_of_ble_eq_true rfl) dX3_holdsOf_66 ⟨by decide, by decide⟩ ?_
              refine zf_i (x' := fI v / 1024) (show m_X2_fineOf (edge v) / 1024 = _ by rw [ed_fine hv]) ?_
              refine zp_call hx hb hml hown hts k_X3_55 (c_isRootOfItsCube l v (hv)) ⟨by decide, by decide⟩ rfl hl.1 [] rfl (Nat.le_of_ble_eq_true rfl) dX3_holdsOf_69 ⟨Nat.le_of_ble_eq_true rfl, Nat.le_of_ble_eq_true rfl⟩ ?_
              refine zb_eq (tgt := 91) hx hb dX3_holdsOf_72 (by decide) (fun h8 => ?_) (fun h8 => ?_)
              · exact absurd h8 (by decide)
              · refine lv_iload hx hb dX3_holdsOf_75 (lv_at hl 0 rfl) ?_
                refine lv_lload_n hx hb dX3_holdsOf_77 rfl (lv_at hl 4 rfl) ?_
                refine zp_call hx hb hml hown hts k_X3_59 (c_X2_withoutSign l (edge v)) ⟨by decide, by decide⟩ rfl hl.1 [.int (nI (eig v))] rfl (Nat.le_of_ble_eq_true rfl) dX3_holdsOf_78 ⟨by decide, by decide⟩ ?_
                refine zp_call hx hb hml hown hts k_X3_63 (c_X3_isFine l (nI (eig v)) (m_X2_withoutSign (edge v))) ⟨by decide, by decide⟩ rfl hl.1 [] rfl (Nat.le_of_ble_eq_true rfl) dX3_holdsOf_81 ⟨by decide, by decide⟩ ?_
                refine zf_z (x' := true) (congrArg bI (ed_isfine hv)) ?_
                refine zb_eq (tgt := 91) hx hb dX3_holdsOf_84 (by decide) (fun h9 => ?_) (fun h9 => ?_)
                · exact absurd h9 (by decide)
                · refine lv_iconst (v := 1) hx hb dX3_holdsOf_87 (by decide) ?_
                  refine lv_goto (tgt := 92) hx hb dX3_holdsOf_88 (by decide) ?_
                  exact zh_zret (x1.1, x1.2.1, x1.2.2) hx hb hr hlocks dX3_holdsOf_92 hP hD hS (rfl) (rfl)
            · exact absurd h7 (by decide)
        · exact absurd h3 (by decide)
    · refine lv_iload_n hx hb dX3_holdsOf_16 rfl (lv_at hl 1 rfl) ?_
      refine zp_call hx hb hml hown hts k_X3_38 (c_X5_eightfoldOf l (nI v)) ⟨by decide, by decide⟩ rfl hl.1 [] rfl (Nat.le_of_ble_eq_true rfl) dX3_holdsOf_17 ⟨by decide, by decide⟩ ?_
      refine zf_i (x' := (-1)) ((mv_e8 hv).trans (if_neg hq)) ?_
      refine lv_istore (lv' := [(4, .int (-1)), (0, .ref t), (1, .int (nI v)), (2, .long (edge v))]) hx hb dX3_holdsOf_20 hl (by decide) rfl (fun ls hl => ?_)
      refine lv_iload hx hb dX3_holdsOf_22 (lv_at hl 0 rfl) ?_
      refine lv_iconst (v := (-1)) hx hb dX3_holdsOf_24 (by decide) ?_
      refine lv_icmp_eq (tgt := 42) hx hb dX3_holdsOf_25 (by decide) (fun h10 => ?_) (fun h10 => ?_)
      · refine lv_iload_n hx hb dX3_holdsOf_42 rfl (lv_at hl 2 rfl) ?_
        refine zp_call hx hb hml hown hts k_X3_44 (c_X5_eighthsOf l (nI v)) ⟨by decide, by decide⟩ rfl hl.1 [] rfl (Nat.le_of_ble_eq_true rfl) dX3_holdsOf_43 ⟨Nat.le_of_ble_eq_true rfl, Nat.le_of_ble_eq_true rfl⟩ ?_
        refine zf_i (x' := nI (eig v)) (mv_eig hv) ?_
        refine lv_istore (lv' := [(5, .int (nI (eig v))), (4, .int (-1)), (0, .ref t), (1, .int (nI v)), (2, .long (edge v))]) hx hb dX3_holdsOf_46 hl (by decide) rfl (fun ls hl => ?_)
        refine lv_iload hx hb dX3_holdsOf_48 (lv_at hl 0 rfl) ?_
        refine lv_if_le (tgt := 65) hx hb dX3_holdsOf_50 (by decide) (fun h11 => ?_) (fun h11 => ?_)
        · refine lv_lload_n hx hb dX3_holdsOf_65 rfl (lv_at hl 4 rfl) ?_
          refine zp_call hx hb hml hown hts k_X3_51 (c_X2_wholeOf l (edge v)) ⟨by decide, by decide⟩ rfl hl.1 [] rfl (Nat.le_of_ble_eq_true rfl) dX3_holdsOf_66 ⟨by decide, by decide⟩ ?_
          refine zf_i (x' := fI v / 1024) (show m_X2_fineOf (edge v) / 1024 = _ by rw [ed_fine hv]) ?_
          refine zp_call hx hb hml hown hts k_X3_55 (c_isRootOfItsCube l v (hv)) ⟨by decide, by decide⟩ rfl hl.1 [] rfl (Nat.le_of_ble_eq_true rfl) dX3_holdsOf_69 ⟨Nat.le_of_ble_eq_true rfl, Nat.le_of_ble_eq_true rfl⟩ ?_
          refine zb_eq (tgt := 91) hx hb dX3_holdsOf_72 (by decide) (fun h12 => ?_) (fun h12 => ?_)
          · exact absurd h12 (by decide)
          · refine lv_iload hx hb dX3_holdsOf_75 (lv_at hl 0 rfl) ?_
            refine lv_lload_n hx hb dX3_holdsOf_77 rfl (lv_at hl 4 rfl) ?_
            refine zp_call hx hb hml hown hts k_X3_59 (c_X2_withoutSign l (edge v)) ⟨by decide, by decide⟩ rfl hl.1 [.int (nI (eig v))] rfl (Nat.le_of_ble_eq_true rfl) dX3_holdsOf_78 ⟨by decide, by decide⟩ ?_
            refine zp_call hx hb hml hown hts k_X3_63 (c_X3_isFine l (nI (eig v)) (m_X2_withoutSign (edge v))) ⟨by decide, by decide⟩ rfl hl.1 [] rfl (Nat.le_of_ble_eq_true rfl) dX3_holdsOf_81 ⟨by decide, by decide⟩ ?_
            refine zf_z (x' := true) (congrArg bI (ed_isfine hv)) ?_
            refine zb_eq (tgt := 91) hx hb dX3_holdsOf_84 (by decide) (fun h13 => ?_) (fun h13 => ?_)
            · exact absurd h13 (by decide)
            · refine lv_iconst (v := 1) hx hb dX3_holdsOf_87 (by decide) ?_
              refine lv_goto (tgt := 92) hx hb dX3_holdsOf_88 (by decide) ?_
              exact zh_zret (NL, NR, NG) hx hb hr hlocks dX3_holdsOf_92 hP hD hS (rfl) (rfl)
        · refine lv_aload_n hx hb dX3_holdsOf_53 rfl (lv_at hl 2 rfl) ?_
          refine lv_iload hx hb dX3_holdsOf_54 (lv_at hl 0 rfl) ?_
          refine lv_lload_n hx hb dX3_holdsOf_56 rfl (lv_at hl 4 rfl) ?_
          refine zh_v (T := T) hx hb hml hown hts k_X3_47 (c_isBetweenCubes l D T t bl fl br fr bg fg NL NR NG v (hv) (Nat.pos_of_ne_zero fun q => h11 (by rw [q]; decide))) ⟨by decide, by decide⟩ rfl hl.1 [] rfl (Nat.le_of_ble_eq_true rfl) dX3_holdsOf_57 ⟨Nat.le_of_ble_eq_true rfl, Nat.le_of_ble_eq_true rfl⟩ hK hP hD hS hA (ci := 0) rfl rfl rfl [0, 1, 2, 3, 4, 5, 6] [] (wr := []) rfl rfl (by decide) (by decide) (by decide) [0, 1, 2, 3, 4, 5, 6] (fun x2 => [(t, .inr (0, [.ref bl, .ref br, .ref bg])), (bl, .inr (2, [.ref fl])), (fl, .inl (T 1, 7, .inr (.inl (fun i => lN (lb x2.1 i))))), (br, .inr (2, [.ref fr])), (fr, .inl (T 1, 7, .inr (.inl (fun i => lN (lb x2.2.1 i))))), (bg, .inr (2, [.ref fg])), (fg, .inl (T 1, 7, .inr (.inl (fun i => lN (lb x2.2.2 i)))))]) (by decide) (fun _ => rfl) (fun x2 H locs hP hD hS => ?_)
          have hP : va_P D zcl [(t, .inr (0, [.ref bl, .ref br, .ref bg])), (bl, .inr (2, [.ref fl])), (fl, .inl (T 1, 7, .inr (.inl (fun i => lN (lb x2.1 i))))), (br, .inr (2, [.ref fr])), (fr, .inl (T 1, 7, .inr (.inl (fun i => lN (lb x2.2.1 i))))), (bg, .inr (2, [.ref fg])), (fg, .inl (T 1, 7, .inr (.inl (fun i => lN (lb x2.2.2 i)))))] H := hP
          have hD : va_D A [(t, .inr (0, [.ref bl, .ref br, .ref bg])), (bl, .inr (2, [.ref fl])), (fl, .inl (T 1, 7, .inr (.inl (fun i => lN (lb x2.1 i))))), (br, .inr (2, [.ref fr])), (fr, .inl (T 1, 7, .inr (.inl (fun i => lN (lb x2.2.1 i))))), (bg, .inr (2, [.ref fg])), (fg, .inl (T 1, 7, .inr (.inl (fun i => lN (lb x2.2.2 i)))))] := hD
          refine zb_ne (tgt := 65) hx hb dX3_holdsOf_60 (by decide) (fun h14 => ?_) (fun h14 => ?_)
          · refine lv_lload_n hx hb dX3_holdsOf_65 rfl (lv_at hl 4 rfl) ?_
            refine zp_call hx hb hml hown hts k_X3_51 (c_X2_wholeOf l (edge v)) ⟨by decide, by decide⟩ rfl hl.1 [] rfl (Nat.le_of_ble_eq_true rfl) dX3_holdsOf_66 ⟨by decide, by decide⟩ ?_
            refine zf_i (x' := fI v / 1024) (show m_X2_fineOf (edge v) / 1024 = _ by rw [ed_fine hv]) ?_
            refine zp_call hx hb hml hown hts k_X3_55 (c_isRootOfItsCube l v (hv)) ⟨by decide, by decide⟩ rfl hl.1 [] rfl (Nat.le_of_ble_eq_true rfl) dX3_holdsOf_69 ⟨Nat.le_of_ble_eq_true rfl, Nat.le_of_ble_eq_true rfl⟩ ?_
            refine zb_eq (tgt := 91) hx hb dX3_holdsOf_72 (by decide) (fun h15 => ?_) (fun h15 => ?_)
            · exact absurd h15 (by decide)
            · refine lv_iload hx hb dX3_holdsOf_75 (lv_at hl 0 rfl) ?_
              refine lv_lload_n hx hb dX3_holdsOf_77 rfl (lv_at hl 4 rfl) ?_
              refine zp_call hx hb hml hown hts k_X3_59 (c_X2_withoutSign l (edge v)) ⟨by decide, by decide⟩ rfl hl.1 [.int (nI (eig v))] rfl (Nat.le_of_ble_eq_true rfl) dX3_holdsOf_78 ⟨by decide, by decide⟩ ?_
              refine zp_call hx hb hml hown hts k_X3_63 (c_X3_isFine l (nI (eig v)) (m_X2_withoutSign (edge v))) ⟨by decide, by decide⟩ rfl hl.1 [] rfl (Nat.le_of_ble_eq_true rfl) dX3_holdsOf_81 ⟨by decide, by decide⟩ ?_
              refine zf_z (x' := true) (congrArg bI (ed_isfine hv)) ?_
              refine zb_eq (tgt := 91) hx hb dX3_holdsOf_84 (by decide) (fun h16 => ?_) (fun h16 => ?_)
              · exact absurd h16 (by decide)
              · refine lv_iconst (v := 1) hx hb dX3_holdsOf_87 (by decide) ?_
                refine lv_goto (tgt := 92) hx hb dX3_holdsOf_88 (by decide) ?_
                exact zh_zret (x2.1, x2.2.1, x2.2.2) hx hb hr hlocks dX3_holdsOf_92 hP hD hS (rfl) (rfl)
          · exact absurd h14 (by decide)
      · exact absurd h10 (by decide)
  · exact absurd h1 (by decide)
set_option maxRecDepth 20000 in
theorem c_isNearProduct (l : Launch) (D : va_G) (T : Nat → ClassId) (t bl fl br fr bg fg NL NR NG : Nat) (v w : Nat) (hv : v < 262144) (hw : w < 262144) (hp : eig v * eig w % 8 = 0 ∧ rdC (eig v * eig w / 8) ≤ 65535) : Hm l yX3_isNearProduct cX3_isNearProduct 8 (some FieldType.boolean) 2 0 0 D T [.ref t, .long (edge v), .long (edge w), .long (edge (rdV (eig v * eig w / 8) (isB v != isB w)))] [(t, .inr (0, [.ref bl, .ref br, .ref bg])), (bl, .inr (2, [.ref fl])), (fl, .inl (T 1, 7, .inr (.inl (fun i => lN (lb NL i))))), (br, .inr (2, [.ref fr])), (fr, .inl (T 1, 7, .inr (.inl (fun i => lN (lb NR i))))), (bg, .inr (2, [.ref fg])), (fg, .inl (T 1, 7, .inr (.inl (fun i => lN (lb NG i)))))] (some (.int (bI true))) (fun x : Nat × Nat × Nat => [(t, .inr (0, [.ref bl, .ref br, .ref bg])), (bl, .inr (2, [.ref fl])), (fl, .inl (T 1, 7, .inr (.inl (fun i => lN (lb x.1 i))))), (br, .inr (2, [.ref fr])), (fr, .inl (T 1, 7, .inr (.inl (fun i => lN (lb x.2.1 i))))), (bg, .inr (2, [.ref fg])), (fg, .inl (T 1, 7, .inr (.inl (fun i => lN (lb x.2.2 i)))))]) := by
  refine Hm.of (by decide) (Nat.le_of_ble_eq_true rfl) ?_
  intro zp ze s zm args below zmeth zc hx hb hr hml hown hin hts hlocks A hA hP hK hD hS ls hl
  have hl : lv_has ls 8 [(0, .ref t), (1, .long (edge v)), (3, .long (edge w)), (5, .long (edge (rdV (eig v * eig w / 8) (isB v != isB w))))] := hl
  have hre : rdV (eig v * eig w / 8) (isB v != isB w) < 262144 := rdV_lt hp.2 _
  by_cases z1 : eig v = 0
  · refine lv_lload_n hx hb dX3_isNearProduct_0 rfl (lv_at hl 1 rfl) ?_
    refine zp_call hx hb hml hown hts k_X3_92 (c_X2_isZero l (edge v)) ⟨by decide, by decide⟩ rfl hl.1 [] rfl (Nat.le_of_ble_eq_true rfl) dX3_isNearProduct_1 ⟨by decide, by decide⟩ ?_
    refine zb_ne (tgt := 22) hx hb dX3_isNearProduct_4 (by decide) (fun h1 => ?_) (fun h1 => ?_)
    · refine lv_lload hx hb dX3_isNearProduct_22 (lv_at hl 3 rfl) ?_
      refine zp_call hx hb hml hown hts k_X3_92 (c_X2_isZero l (edge (rdV (eig v * eig w / 8) (isB v != isB w)))) ⟨by decide, by decide⟩ rfl hl.1 [] rfl (Nat.le_of_ble_eq_true rfl) dX3_isNearProduct_24 ⟨by decide, by decide⟩ ?_
      refine zb_eq (tgt := 48) hx hb dX3_isNearProduct_27 (by decide) (fun h2 => ?_) (fun h2 => ?_)
      · exact absurd (((ed_isZero hre).trans (decide_eq_true (by rw [eig_rd, z1, Nat.zero_mul]))).symm.trans h2) (by decide)
      · refine lv_lload_n hx hb dX3_isNearProduct_30 rfl (lv_at hl 1 rfl) ?_
        refine zp_call hx hb hml hown hts k_X3_92 (c_X2_isZero l (edge v)) ⟨by decide, by decide⟩ rfl hl.1 [] rfl (Nat.le_of_ble_eq_true rfl) dX3_isNearProduct_31 ⟨by decide, by decide⟩ ?_
        refine zb_ne (tgt := 44) hx hb dX3_isNearProduct_34 (by decide) (fun h3 => ?_) (fun h3 => ?_)
        · refine lv_iconst (v := 1) hx hb dX3_isNearProduct_44 (by decide) ?_
          refine lv_goto (tgt := 49) hx hb dX3_isNearProduct_45 (by decide) ?_
          exact zh_zret (NL, NR, NG) hx hb hr hlocks dX3_isNearProduct_49 hP hD hS (rfl) (rfl)
        · exact absurd (((ed_isZero hv).trans (decide_eq_true z1)).symm.trans h3) (by decide)
    · exact absurd (((ed_isZero hv).trans (decide_eq_true z1)).symm.trans h1) (by decide)
  · by_cases z2 : eig w = 0
    · refine lv_lload_n hx hb dX3_isNearProduct_0 rfl (lv_at hl 1 rfl) ?_
      refine zp_call hx hb hml hown hts k_X3_92 (c_X2_isZero l (edge v)) ⟨by decide, by decide⟩ rfl hl.1 [] rfl (Nat.le_of_ble_eq_true rfl) dX3_isNearProduct_1 ⟨by decide, by decide⟩ ?_
      refine zb_ne (tgt := 22) hx hb dX3_isNearProduct_4 (by decide) (fun h4 => ?_) (fun h4 => ?_)
      · exact absurd (((ed_isZero hv).trans (decide_eq_false z1)).symm.trans h4) (by decide)
      · refine lv_lload_n hx hb dX3_isNearProduct_7 rfl (lv_at hl 2 rfl) ?_
        refine zp_call hx hb hml hown hts k_X3_92 (c_X2_isZero l (edge w)) ⟨by decide, by decide⟩ rfl hl.1 [] rfl (Nat.le_of_ble_eq_true rfl) dX3_isNearProduct_8 ⟨by decide, by decide⟩ ?_
        refine zb_ne (tgt := 22) hx hb dX3_isNearProduct_11 (by decide) (fun h5 => ?_) (fun h5 => ?_)
        · refine lv_lload hx hb dX3_isNearProduct_22 (lv_at hl 3 rfl) ?_
          refine zp_call hx hb hml hown hts k_X3_92 (c_X2_isZero l (edge (rdV (eig v * eig w / 8) (isB v != isB w)))) ⟨by decide, by decide⟩ rfl hl.1 [] rfl (Nat.le_of_ble_eq_true rfl) dX3_isNearProduct_24 ⟨by decide, by decide⟩ ?_
          refine zb_eq (tgt := 48) hx hb dX3_isNearProduct_27 (by decide) (fun h6 => ?_) (fun h6 => ?_)
          · exact absurd (((ed_isZero hre).trans (decide_eq_true (by rw [eig_rd, z2, Nat.mul_zero]))).symm.trans h6) (by decide)
          · refine lv_lload_n hx hb dX3_isNearProduct_30 rfl (lv_at hl 1 rfl) ?_
            refine zp_call hx hb hml hown hts k_X3_92 (c_X2_isZero l (edge v)) ⟨by decide, by decide⟩ rfl hl.1 [] rfl (Nat.le_of_ble_eq_true rfl) dX3_isNearProduct_31 ⟨by decide, by decide⟩ ?_
            refine zb_ne (tgt := 44) hx hb dX3_isNearProduct_34 (by decide) (fun h7 => ?_) (fun h7 => ?_)
            · exact absurd (((ed_isZero hv).trans (decide_eq_false z1)).symm.trans h7) (by decide)
            · refine lv_lload_n hx hb dX3_isNearProduct_37 rfl (lv_at hl 2 rfl) ?_
              refine zp_call hx hb hml hown hts k_X3_92 (c_X2_isZero l (edge w)) ⟨by decide, by decide⟩ rfl hl.1 [] rfl (Nat.le_of_ble_eq_true rfl) dX3_isNearProduct_38 ⟨by decide, by decide⟩ ?_
              refine zb_eq (tgt := 48) hx hb dX3_isNearProduct_41 (by decide) (fun h8 => ?_) (fun h8 => ?_)
              · exact absurd (((ed_isZero hw).trans (decide_eq_true z2)).symm.trans h8) (by decide)
              · refine lv_iconst (v := 1) hx hb dX3_isNearProduct_44 (by decide) ?_
                refine lv_goto (tgt := 49) hx hb dX3_isNearProduct_45 (by decide) ?_
                exact zh_zret (NL, NR, NG) hx hb hr hlocks dX3_isNearProduct_49 hP hD hS (rfl) (rfl)
        · exact absurd (((ed_isZero hw).trans (decide_eq_true z2)).symm.trans h5) (by decide)
    · have h0v := Nat.pos_of_ne_zero z1
      have h0w := Nat.pos_of_ne_zero z2
      have h0r : 0 < eig (rdV (eig v * eig w / 8) (isB v != isB w)) := by rw [eig_rd]; exact rd_pos z1 z2 hp.1
      have hsr := ed_scale hre h0r
      have hmr := ed_mant hre h0r
      have hvr := ed_vol hre h0r
      rw [eig_rd] at hsr hmr hvr
      have hvv := ed_vol hv h0v
      have hvw := ed_vol hw h0w
      have hcp := cb_prod hvv hvw hp.1 hvr
      have n1 := cb_near hvv
      have n2 := cb_near hvw
      have n3 := cb_near hvr
      have hm1 := mt_lt (eig v)
      have hm2 := mt_lt (eig w)
      have hm3 := mt_lt (eig v * eig w / 8)
      have hs60 : 2 ^ (kb (eig v * eig w / 8) + 1075 - kb (eig v) - kb (eig w)) < 2 ^ 60 := Nat.pow_lt_pow_right (by decide) (by omega)
      have hw1 : mt (eig v) * mt (eig w) < 2 ^ 210 := Nat.lt_trans (prod53 _ _) (by decide)
      have hw2 : mt (eig v * eig w / 8) * 2 ^ (kb (eig v * eig w / 8) + 1075 - kb (eig v) - kb (eig w)) < 2 ^ 210 := Nat.lt_trans (prod60 hcp.2.1) (by decide)
      refine lv_lload_n hx hb dX3_isNearProduct_0 rfl (lv_at hl 1 rfl) ?_
      refine zp_call hx hb hml hown hts k_X3_92 (c_X2_isZero l (edge v)) ⟨by decide, by decide⟩ rfl hl.1 [] rfl (Nat.le_of_ble_eq_true rfl) dX3_isNearProduct_1 ⟨by decide, by decide⟩ ?_
      refine zb_ne (tgt := 22) hx hb dX3_isNearProduct_4 (by decide) (fun h9 => ?_) (fun h9 => ?_)
      · exact absurd (((ed_isZero hv).trans (decide_eq_false z1)).symm.trans h9) (by decide)
      · refine lv_lload_n hx hb dX3_isNearProduct_7 rfl (lv_at hl 2 rfl) ?_
        refine zp_call hx hb hml hown hts k_X3_92 (c_X2_isZero l (edge w)) ⟨by decide, by decide⟩ rfl hl.1 [] rfl (Nat.le_of_ble_eq_true rfl) dX3_isNearProduct_8 ⟨by decide, by decide⟩ ?_
        refine zb_ne (tgt := 22) hx hb dX3_isNearProduct_11 (by decide) (fun h10 => ?_) (fun h10 => ?_)
        · exact absurd (((ed_isZero hw).trans (decide_eq_false z2)).symm.trans h10) (by decide)
        · refine lv_lload hx hb dX3_isNearProduct_14 (lv_at hl 3 rfl) ?_
          refine zp_call hx hb hml hown hts k_X3_92 (c_X2_isZero l (edge (rdV (eig v * eig w / 8) (isB v != isB w)))) ⟨by decide, by decide⟩ rfl hl.1 [] rfl (Nat.le_of_ble_eq_true rfl) dX3_isNearProduct_16 ⟨by decide, by decide⟩ ?_
          refine zb_eq (tgt := 50) hx hb dX3_isNearProduct_19 (by decide) (fun h11 => ?_) (fun h11 => ?_)
          · refine lv_lload_n hx hb dX3_isNearProduct_50 rfl (lv_at hl 1 rfl) ?_
            refine lv_lload_n hx hb dX3_isNearProduct_51 rfl (lv_at hl 2 rfl) ?_
            refine lv_lxor hx hb dX3_isNearProduct_52 ?_
            refine lv_lload hx hb dX3_isNearProduct_53 (lv_at hl 3 rfl) ?_
            refine lv_lxor hx hb dX3_isNearProduct_55 ?_
            refine lv_ldc2 hx hb hown (hts _ u233) dX3_isNearProduct_56 ?_
            refine lv_land hx hb dX3_isNearProduct_59 ?_
            refine zf_l (x' := 0) (ed_signs hv hw _ hp.2) ?_
            refine lv_lconst (v := 0) hx hb dX3_isNearProduct_60 (by decide) ?_
            refine zl_eq (tgt := 67) hx hb dX3_isNearProduct_61 dX3_isNearProduct_62 (by decide) (fun h12 => ?_) (fun h12 => ?_)
            · refine lv_lload hx hb dX3_isNearProduct_67 (lv_at hl 3 rfl) ?_
              refine zp_call hx hb hml hown hts k_X3_96 (c_X0_scaleOf l (edge (rdV (eig v * eig w / 8) (isB v != isB w)))) ⟨by decide, by decide⟩ rfl hl.1 [] rfl (Nat.le_of_ble_eq_true rfl) dX3_isNearProduct_69 ⟨by decide, by decide⟩ ?_
              refine zf_i (x' := -(nI (1075 - kb (eig v * eig w / 8)))) (hsr) ?_
              refine lv_lload_n hx hb dX3_isNearProduct_72 rfl (lv_at hl 1 rfl) ?_
              refine zp_call hx hb hml hown hts k_X3_96 (c_X0_scaleOf l (edge v)) ⟨by decide, by decide⟩ rfl hl.1 [.int (-(nI (1075 - kb (eig v * eig w / 8))))] rfl (Nat.le_of_ble_eq_true rfl) dX3_isNearProduct_73 ⟨by decide, by decide⟩ ?_
              refine zf_i (x' := -(nI (1075 - kb (eig v)))) (ed_scale hv h0v) ?_
              refine lv_isub hx hb dX3_isNearProduct_76 ?_
              refine lv_lload_n hx hb dX3_isNearProduct_77 rfl (lv_at hl 2 rfl) ?_
              refine zp_call hx hb hml hown hts k_X3_96 (c_X0_scaleOf l (edge w)) ⟨by decide, by decide⟩ rfl hl.1 [.int ((-(nI (1075 - kb (eig v * eig w / 8)))) - (-(nI (1075 - kb (eig v)))))] rfl (Nat.le_of_ble_eq_true rfl) dX3_isNearProduct_78 ⟨by decide, by decide⟩ ?_
              refine zf_i (x' := -(nI (1075 - kb (eig w)))) (ed_scale hw h0w) ?_
              refine lv_isub hx hb dX3_isNearProduct_81 ?_
              refine zf_i (x' := nI (kb (eig v * eig w / 8) + 1075 - kb (eig v) - kb (eig w))) (sh_diff (by omega) (by omega) (by omega) hcp.1) ?_
              refine lv_istore (lv' := [(7, .int (nI (kb (eig v * eig w / 8) + 1075 - kb (eig v) - kb (eig w)))), (0, .ref t), (1, .long (edge v)), (3, .long (edge w)), (5, .long (edge (rdV (eig v * eig w / 8) (isB v != isB w))))]) hx hb dX3_isNearProduct_82 hl (by decide) rfl (fun ls hl => ?_)
              refine lv_iload hx hb dX3_isNearProduct_84 (lv_at hl 0 rfl) ?_
              refine lv_if_lt (tgt := 96) hx hb dX3_isNearProduct_86 (by decide) (fun h13 => ?_) (fun h13 => ?_)
              · exact absurd h13 (nI_pos (by omega))
              · refine lv_iload hx hb dX3_isNearProduct_89 (lv_at hl 0 rfl) ?_
                refine lv_bipush (v := 60) hx hb dX3_isNearProduct_91 (by decide) ?_
                refine lv_icmp_lt (tgt := 98) hx hb dX3_isNearProduct_93 (by decide) (fun h14 => ?_) (fun h14 => ?_)
                · refine lv_aload_n hx hb dX3_isNearProduct_98 rfl (lv_at hl 1 rfl) ?_
                  refine va_get (D := D) (ci := 0) (v := .ref bl) (C := RX3) (T := TX3) (N := 3) hx hb hts i_X3 hown hK hP 0 rfl rfl 0 (by decide) (hts _ u80) (fun _ h9 => h9) rfl dX3_isNearProduct_99 ?_
                  refine lv_lload_n hx hb dX3_isNearProduct_102 rfl (lv_at hl 2 rfl) ?_
                  refine zp_call hx hb hml hown hts k_X3_101 (c_X0_mantissaOf l (edge v)) ⟨by decide, by decide⟩ rfl hl.1 [.ref bl] rfl (Nat.le_of_ble_eq_true rfl) dX3_isNearProduct_103 ⟨by decide, by decide⟩ ?_
                  refine zf_l (x' := lN (mt (eig v))) (ed_mant hv h0v) ?_
                  refine lv_lload_n hx hb dX3_isNearProduct_106 rfl (lv_at hl 3 rfl) ?_
                  refine zp_call hx hb hml hown hts k_X3_101 (c_X0_mantissaOf l (edge w)) ⟨by decide, by decide⟩ rfl hl.1 [.long (lN (mt (eig v))), .ref bl] rfl (Nat.le_of_ble_eq_true rfl) dX3_isNearProduct_107 ⟨by decide, by decide⟩ ?_
                  refine zf_l (x' := lN (mt (eig w))) (ed_mant hw h0w) ?_
                  refine zh_v (T := T) hx hb hml hown hts k_X3_129 (c_X6_setProduct l D T bl fl NL (mt (eig v)) (mt (eig w)) (by omega) (by omega)) ⟨by decide, by decide⟩ rfl hl.1 [] rfl (Nat.le_of_ble_eq_true rfl) dX3_isNearProduct_110 ⟨Nat.le_of_ble_eq_true rfl, Nat.le_of_ble_eq_true rfl⟩ hK hP hD hS hA (ci := 2) rfl rfl rfl [1, 2] [0, 3, 4, 5, 6] (wr := [(t, .inr (0, [.ref bl, .ref br, .ref bg])), (br, .inr (2, [.ref fr])), (fr, .inl (T 1, 7, .inr (.inl (fun i => lN (lb NR i))))), (bg, .inr (2, [.ref fg])), (fg, .inl (T 1, 7, .inr (.inl (fun i => lN (lb NG i)))))]) rfl rfl (by decide) (by decide) (by decide) [0, 5, 6, 1, 2, 3, 4] (fun _ => [(t, .inr (0, [.ref bl, .ref br, .ref bg])), (bl, .inr (2, [.ref fl])), (fl, .inl (T 1, 7, .inr (.inl (fun i => lN (lb ((mt (eig v)) * (mt (eig w))) i))))), (br, .inr (2, [.ref fr])), (fr, .inl (T 1, 7, .inr (.inl (fun i => lN (lb NR i))))), (bg, .inr (2, [.ref fg])), (fg, .inl (T 1, 7, .inr (.inl (fun i => lN (lb NG i)))))]) (by decide) (fun _ => rfl) (fun _ H locs hP hD hS => ?_)
                  have hP : va_P D zcl [(t, .inr (0, [.ref bl, .ref br, .ref bg])), (bl, .inr (2, [.ref fl])), (fl, .inl (T 1, 7, .inr (.inl (fun i => lN (lb ((mt (eig v)) * (mt (eig w))) i))))), (br, .inr (2, [.ref fr])), (fr, .inl (T 1, 7, .inr (.inl (fun i => lN (lb NR i))))), (bg, .inr (2, [.ref fg])), (fg, .inl (T 1, 7, .inr (.inl (fun i => lN (lb NG i)))))] H := hP
                  have hD : va_D A [(t, .inr (0, [.ref bl, .ref br, .ref bg])), (bl, .inr (2, [.ref fl])), (fl, .inl (T 1, 7, .inr (.inl (fun i => lN (lb ((mt (eig v)) * (mt (eig w))) i))))), (br, .inr (2, [.ref fr])), (fr, .inl (T 1, 7, .inr (.inl (fun i => lN (lb NR i))))), (bg, .inr (2, [.ref fg])), (fg, .inl (T 1, 7, .inr (.inl (fun i => lN (lb NG i)))))] := hD
                  refine lv_aload_n hx hb dX3_isNearProduct_113 rfl (lv_at hl 1 rfl) ?_
                  refine va_get (D := D) (ci := 0) (v := .ref br) (C := RX3) (T := TX3) (N := 3) hx hb hts i_X3 hown hK hP 0 rfl rfl 1 (by decide) (hts _ u81) (fun _ h9 => h9) rfl dX3_isNearProduct_114 ?_
                  refine lv_lload hx hb dX3_isNearProduct_117 (lv_at hl 4 rfl) ?_
                  refine zp_call hx hb hml hown hts k_X3_101 (c_X0_mantissaOf l (edge (rdV (eig v * eig w / 8) (isB v != isB w)))) ⟨by decide, by decide⟩ rfl hl.1 [.ref br] rfl (Nat.le_of_ble_eq_true rfl) dX3_isNearProduct_119 ⟨by decide, by decide⟩ ?_
                  refine zf_l (x' := lN (mt (eig v * eig w / 8))) (hmr) ?_
                  refine lv_lconst (v := 1) hx hb dX3_isNearProduct_122 (by decide) ?_
                  refine lv_iload hx hb dX3_isNearProduct_123 (lv_at hl 0 rfl) ?_
                  refine lv_lshl hx hb dX3_isNearProduct_125 rfl ?_
                  refine zf_l (x' := lN (2 ^ (kb (eig v * eig w / 8) + 1075 - kb (eig v) - kb (eig w)))) (sh_1 (by omega)) ?_
                  refine zh_v (T := T) hx hb hml hown hts k_X3_129 (c_X6_setProduct l D T br fr NR (mt (eig v * eig w / 8)) (2 ^ (kb (eig v * eig w / 8) + 1075 - kb (eig v) - kb (eig w))) (by omega) (by omega)) ⟨by decide, by decide⟩ rfl hl.1 [] rfl (Nat.le_of_ble_eq_true rfl) dX3_isNearProduct_126 ⟨Nat.le_of_ble_eq_true rfl, Nat.le_of_ble_eq_true rfl⟩ hK hP hD hS hA (ci := 2) rfl rfl rfl [3, 4] [0, 1, 2, 5, 6] (wr := [(t, .inr (0, [.ref bl, .ref br, .ref bg])), (bl, .inr (2, [.ref fl])), (fl, .inl (T 1, 7, .inr (.inl (fun i => lN (lb ((mt (eig v)) * (mt (eig w))) i))))), (bg, .inr (2, [.ref fg])), (fg, .inl (T 1, 7, .inr (.inl (fun i => lN (lb NG i)))))]) rfl rfl (by decide) (by decide) (by decide) [0, 1, 2, 5, 6, 3, 4] (fun _ => [(t, .inr (0, [.ref bl, .ref br, .ref bg])), (bl, .inr (2, [.ref fl])), (fl, .inl (T 1, 7, .inr (.inl (fun i => lN (lb ((mt (eig v)) * (mt (eig w))) i))))), (br, .inr (2, [.ref fr])), (fr, .inl (T 1, 7, .inr (.inl (fun i => lN (lb ((mt (eig v * eig w / 8)) * (2 ^ (kb (eig v * eig w / 8) + 1075 - kb (eig v) - kb (eig w)))) i))))), (bg, .inr (2, [.ref fg])), (fg, .inl (T 1, 7, .inr (.inl (fun i => lN (lb NG i)))))]) (by decide) (fun _ => rfl) (fun _ H locs hP hD hS => ?_)
                  have hP : va_P D zcl [(t, .inr (0, [.ref bl, .ref br, .ref bg])), (bl, .inr (2, [.ref fl])), (fl, .inl (T 1, 7, .inr (.inl (fun i => lN (lb ((mt (eig v)) * (mt (eig w))) i))))), (br, .inr (2, [.ref fr])), (fr, .inl (T 1, 7, .inr (.inl (fun i => lN (lb ((mt (eig v * eig w / 8)) * (2 ^ (kb (eig v * eig w / 8) + 1075 - kb (eig v) - kb (eig w)))) i))))), (bg, .inr (2, [.ref fg])), (fg, .inl (T 1, 7, .inr (.inl (fun i => lN (lb NG i)))))] H := hP
                  have hD : va_D A [(t, .inr (0, [.ref bl, .ref br, .ref bg])), (bl, .inr (2, [.ref fl])), (fl, .inl (T 1, 7, .inr (.inl (fun i => lN (lb ((mt (eig v)) * (mt (eig w))) i))))), (br, .inr (2, [.ref fr])), (fr, .inl (T 1, 7, .inr (.inl (fun i => lN (lb ((mt (eig v * eig w / 8)) * (2 ^ (kb (eig v * eig w / 8) + 1075 - kb (eig v) - kb (eig w)))) i))))), (bg, .inr (2, [.ref fg])), (fg, .inl (T 1, 7, .inr (.inl (fun i => lN (lb NG i)))))] := hD
                  refine lv_aload_n hx hb dX3_isNearProduct_129 rfl (lv_at hl 1 rfl) ?_
                  refine va_get (D := D) (ci := 0) (v := .ref bg) (C := RX3) (T := TX3) (N := 3) hx hb hts i_X3 hown hK hP 0 rfl rfl 2 (by decide) (hts _ u82) (fun _ h9 => h9) rfl dX3_isNearProduct_130 ?_
                  refine lv_aload_n hx hb dX3_isNearProduct_133 rfl (lv_at hl 1 rfl) ?_
                  refine va_get (D := D) (ci := 0) (v := .ref bl) (C := RX3) (T := TX3) (N := 3) hx hb hts i_X3 hown hK hP 0 rfl rfl 0 (by decide) (hts _ u80) (fun _ h9 => h9) rfl dX3_isNearProduct_134 ?_
                  refine lv_aload_n hx hb dX3_isNearProduct_137 rfl (lv_at hl 1 rfl) ?_
                  refine va_get (D := D) (ci := 0) (v := .ref br) (C := RX3) (T := TX3) (N := 3) hx hb hts i_X3 hown hK hP 0 rfl rfl 1 (by decide) (hts _ u81) (fun _ h9 => h9) rfl dX3_isNearProduct_138 ?_
                  refine zh_v (T := T) hx hb hml hown hts k_X3_132 (c_X6_setGap l D T bg fg bl fl br fr NG ((mt (eig v)) * (mt (eig w))) ((mt (eig v * eig w / 8)) * (2 ^ (kb (eig v * eig w / 8) + 1075 - kb (eig v) - kb (eig w)))) (hw1) (hw2)) ⟨by decide, by decide⟩ rfl hl.1 [] rfl (Nat.le_of_ble_eq_true rfl) dX3_isNearProduct_141 ⟨Nat.le_of_ble_eq_true rfl, Nat.le_of_ble_eq_true rfl⟩ hK hP hD hS hA (ci := 2) rfl rfl rfl [5, 6, 1, 2, 3, 4] [0] (wr := [(t, .inr (0, [.ref bl, .ref br, .ref bg]))]) rfl rfl (by decide) (by decide) (by decide) [0, 3, 4, 5, 6, 1, 2] (fun _ => [(t, .inr (0, [.ref bl, .ref br, .ref bg])), (bl, .inr (2, [.ref fl])), (fl, .inl (T 1, 7, .inr (.inl (fun i => lN (lb ((mt (eig v)) * (mt (eig w))) i))))), (br, .inr (2, [.ref fr])), (fr, .inl (T 1, 7, .inr (.inl (fun i => lN (lb ((mt (eig v * eig w / 8)) * (2 ^ (kb (eig v * eig w / 8) + 1075 - kb (eig v) - kb (eig w)))) i))))), (bg, .inr (2, [.ref fg])), (fg, .inl (T 1, 7, .inr (.inl (fun i => lN (lb (((mt (eig v)) * (mt (eig w))) - ((mt (eig v * eig w / 8)) * (2 ^ (kb (eig v * eig w / 8) + 1075 - kb (eig v) - kb (eig w)))) + (((mt (eig v * eig w / 8)) * (2 ^ (kb (eig v * eig w / 8) + 1075 - kb (eig v) - kb (eig w)))) - ((mt (eig v)) * (mt (eig w))))) i)))))]) (by decide) (fun _ => rfl) (fun _ H locs hP hD hS => ?_)
                  have hP : va_P D zcl [(t, .inr (0, [.ref bl, .ref br, .ref bg])), (bl, .inr (2, [.ref fl])), (fl, .inl (T 1, 7, .inr (.inl (fun i => lN (lb ((mt (eig v)) * (mt (eig w))) i))))), (br, .inr (2, [.ref fr])), (fr, .inl (T 1, 7, .inr (.inl (fun i => lN (lb ((mt (eig v * eig w / 8)) * (2 ^ (kb (eig v * eig w / 8) + 1075 - kb (eig v) - kb (eig w)))) i))))), (bg, .inr (2, [.ref fg])), (fg, .inl (T 1, 7, .inr (.inl (fun i => lN (lb (((mt (eig v)) * (mt (eig w))) - ((mt (eig v * eig w / 8)) * (2 ^ (kb (eig v * eig w / 8) + 1075 - kb (eig v) - kb (eig w)))) + (((mt (eig v * eig w / 8)) * (2 ^ (kb (eig v * eig w / 8) + 1075 - kb (eig v) - kb (eig w)))) - ((mt (eig v)) * (mt (eig w))))) i)))))] H := hP
                  have hD : va_D A [(t, .inr (0, [.ref bl, .ref br, .ref bg])), (bl, .inr (2, [.ref fl])), (fl, .inl (T 1, 7, .inr (.inl (fun i => lN (lb ((mt (eig v)) * (mt (eig w))) i))))), (br, .inr (2, [.ref fr])), (fr, .inl (T 1, 7, .inr (.inl (fun i => lN (lb ((mt (eig v * eig w / 8)) * (2 ^ (kb (eig v * eig w / 8) + 1075 - kb (eig v) - kb (eig w)))) i))))), (bg, .inr (2, [.ref fg])), (fg, .inl (T 1, 7, .inr (.inl (fun i => lN (lb (((mt (eig v)) * (mt (eig w))) - ((mt (eig v * eig w / 8)) * (2 ^ (kb (eig v * eig w / 8) + 1075 - kb (eig v) - kb (eig w)))) + (((mt (eig v * eig w / 8)) * (2 ^ (kb (eig v * eig w / 8) + 1075 - kb (eig v) - kb (eig w)))) - ((mt (eig v)) * (mt (eig w))))) i)))))] := hD
                  refine lv_aload_n hx hb dX3_isNearProduct_144 rfl (lv_at hl 1 rfl) ?_
                  refine va_get (D := D) (ci := 0) (v := .ref bg) (C := RX3) (T := TX3) (N := 3) hx hb hts i_X3 hown hK hP 0 rfl rfl 2 (by decide) (hts _ u82) (fun _ h9 => h9) rfl dX3_isNearProduct_145 ?_
                  refine lv_ldc2 hx hb hown (hts _ u319) dX3_isNearProduct_148 ?_
                  refine zf_l (x' := lN (2 ^ 50)) (by decide) ?_
                  refine zh_v (T := T) hx hb hml hown hts k_X3_138 (c_X6_multiplyBy l D T bg fg (((mt (eig v)) * (mt (eig w))) - ((mt (eig v * eig w / 8)) * (2 ^ (kb (eig v * eig w / 8) + 1075 - kb (eig v) - kb (eig w)))) + (((mt (eig v * eig w / 8)) * (2 ^ (kb (eig v * eig w / 8) + 1075 - kb (eig v) - kb (eig w)))) - ((mt (eig v)) * (mt (eig w))))) (2 ^ 50) (by omega)) ⟨by decide, by decide⟩ rfl hl.1 [] rfl (Nat.le_of_ble_eq_true rfl) dX3_isNearProduct_151 ⟨Nat.le_of_ble_eq_true rfl, Nat.le_of_ble_eq_true rfl⟩ hK hP hD hS hA (ci := 2) rfl rfl rfl [5, 6] [0, 1, 2, 3, 4] (wr := [(t, .inr (0, [.ref bl, .ref br, .ref bg])), (bl, .inr (2, [.ref fl])), (fl, .inl (T 1, 7, .inr (.inl (fun i => lN (lb ((mt (eig v)) * (mt (eig w))) i))))), (br, .inr (2, [.ref fr])), (fr, .inl (T 1, 7, .inr (.inl (fun i => lN (lb ((mt (eig v * eig w / 8)) * (2 ^ (kb (eig v * eig w / 8) + 1075 - kb (eig v) - kb (eig w)))) i)))))]) rfl rfl (by decide) (by decide) (by decide) [0, 1, 2, 3, 4, 5, 6] (fun _ => [(t, .inr (0, [.ref bl, .ref br, .ref bg])), (bl, .inr (2, [.ref fl])), (fl, .inl (T 1, 7, .inr (.inl (fun i => lN (lb ((mt (eig v)) * (mt (eig w))) i))))), (br, .inr (2, [.ref fr])), (fr, .inl (T 1, 7, .inr (.inl (fun i => lN (lb ((mt (eig v * eig w / 8)) * (2 ^ (kb (eig v * eig w / 8) + 1075 - kb (eig v) - kb (eig w)))) i))))), (bg, .inr (2, [.ref fg])), (fg, .inl (T 1, 7, .inr (.inl (fun i => lN (lb ((((mt (eig v)) * (mt (eig w))) - ((mt (eig v * eig w / 8)) * (2 ^ (kb (eig v * eig w / 8) + 1075 - kb (eig v) - kb (eig w)))) + (((mt (eig v * eig w / 8)) * (2 ^ (kb (eig v * eig w / 8) + 1075 - kb (eig v) - kb (eig w)))) - ((mt (eig v)) * (mt (eig w))))) * (2 ^ 50)) i)))))]) (by decide) (fun _ => rfl) (fun _ H locs hP hD hS => ?_)
                  have hP : va_P D zcl [(t, .inr (0, [.ref bl, .ref br, .ref bg])), (bl, .inr (2, [.ref fl])), (fl, .inl (T 1, 7, .inr (.inl (fun i => lN (lb ((mt (eig v)) * (mt (eig w))) i))))), (br, .inr (2, [.ref fr])), (fr, .inl (T 1, 7, .inr (.inl (fun i => lN (lb ((mt (eig v * eig w / 8)) * (2 ^ (kb (eig v * eig w / 8) + 1075 - kb (eig v) - kb (eig w)))) i))))), (bg, .inr (2, [.ref fg])), (fg, .inl (T 1, 7, .inr (.inl (fun i => lN (lb ((((mt (eig v)) * (mt (eig w))) - ((mt (eig v * eig w / 8)) * (2 ^ (kb (eig v * eig w / 8) + 1075 - kb (eig v) - kb (eig w)))) + (((mt (eig v * eig w / 8)) * (2 ^ (kb (eig v * eig w / 8) + 1075 - kb (eig v) - kb (eig w)))) - ((mt (eig v)) * (mt (eig w))))) * (2 ^ 50)) i)))))] H := hP
                  have hD : va_D A [(t, .inr (0, [.ref bl, .ref br, .ref bg])), (bl, .inr (2, [.ref fl])), (fl, .inl (T 1, 7, .inr (.inl (fun i => lN (lb ((mt (eig v)) * (mt (eig w))) i))))), (br, .inr (2, [.ref fr])), (fr, .inl (T 1, 7, .inr (.inl (fun i => lN (lb ((mt (eig v * eig w / 8)) * (2 ^ (kb (eig v * eig w / 8) + 1075 - kb (eig v) - kb (eig w)))) i))))), (bg, .inr (2, [.ref fg])), (fg, .inl (T 1, 7, .inr (.inl (fun i => lN (lb ((((mt (eig v)) * (mt (eig w))) - ((mt (eig v * eig w / 8)) * (2 ^ (kb (eig v * eig w / 8) + 1075 - kb (eig v) - kb (eig w)))) + (((mt (eig v * eig w / 8)) * (2 ^ (kb (eig v * eig w / 8) + 1075 - kb (eig v) - kb (eig w)))) - ((mt (eig v)) * (mt (eig w))))) * (2 ^ 50)) i)))))] := hD
                  refine lv_aload_n hx hb dX3_isNearProduct_154 rfl (lv_at hl 1 rfl) ?_
                  refine va_get (D := D) (ci := 0) (v := .ref bg) (C := RX3) (T := TX3) (N := 3) hx hb hts i_X3 hown hK hP 0 rfl rfl 2 (by decide) (hts _ u82) (fun _ h9 => h9) rfl dX3_isNearProduct_155 ?_
                  refine lv_aload_n hx hb dX3_isNearProduct_158 rfl (lv_at hl 1 rfl) ?_
                  refine va_get (D := D) (ci := 0) (v := .ref br) (C := RX3) (T := TX3) (N := 3) hx hb hts i_X3 hown hK hP 0 rfl rfl 1 (by decide) (hts _ u81) (fun _ h9 => h9) rfl dX3_isNearProduct_159 ?_
                  refine zh_v (T := T) hx hb hml hown hts k_X3_108 (c_X6_isLess l D T bg fg br fr ((((mt (eig v)) * (mt (eig w))) - ((mt (eig v * eig w / 8)) * (2 ^ (kb (eig v * eig w / 8) + 1075 - kb (eig v) - kb (eig w)))) + (((mt (eig v * eig w / 8)) * (2 ^ (kb (eig v * eig w / 8) + 1075 - kb (eig v) - kb (eig w)))) - ((mt (eig v)) * (mt (eig w))))) * (2 ^ 50)) ((mt (eig v * eig w / 8)) * (2 ^ (kb (eig v * eig w / 8) + 1075 - kb (eig v) - kb (eig w)))) (Nat.lt_trans hcp.2.2 hw2) (hw2)) ⟨by decide, by decide⟩ rfl hl.1 [] rfl (Nat.le_of_ble_eq_true rfl) dX3_isNearProduct_162 ⟨Nat.le_of_ble_eq_true rfl, Nat.le_of_ble_eq_true rfl⟩ hK hP hD hS hA (ci := 2) rfl rfl rfl [5, 6, 3, 4] [0, 1, 2] (wr := [(t, .inr (0, [.ref bl, .ref br, .ref bg])), (bl, .inr (2, [.ref fl])), (fl, .inl (T 1, 7, .inr (.inl (fun i => lN (lb ((mt (eig v)) * (mt (eig w))) i)))))]) rfl rfl (by decide) (by decide) (by decide) [0, 1, 2, 5, 6, 3, 4] (fun _ => [(t, .inr (0, [.ref bl, .ref br, .ref bg])), (bl, .inr (2, [.ref fl])), (fl, .inl (T 1, 7, .inr (.inl (fun i => lN (lb ((mt (eig v)) * (mt (eig w))) i))))), (br, .inr (2, [.ref fr])), (fr, .inl (T 1, 7, .inr (.inl (fun i => lN (lb ((mt (eig v * eig w / 8)) * (2 ^ (kb (eig v * eig w / 8) + 1075 - kb (eig v) - kb (eig w)))) i))))), (bg, .inr (2, [.ref fg])), (fg, .inl (T 1, 7, .inr (.inl (fun i => lN (lb ((((mt (eig v)) * (mt (eig w))) - ((mt (eig v * eig w / 8)) * (2 ^ (kb (eig v * eig w / 8) + 1075 - kb (eig v) - kb (eig w)))) + (((mt (eig v * eig w / 8)) * (2 ^ (kb (eig v * eig w / 8) + 1075 - kb (eig v) - kb (eig w)))) - ((mt (eig v)) * (mt (eig w))))) * (2 ^ 50)) i)))))]) (by decide) (fun _ => rfl) (fun _ H locs hP hD hS => ?_)
                  have hP : va_P D zcl [(t, .inr (0, [.ref bl, .ref br, .ref bg])), (bl, .inr (2, [.ref fl])), (fl, .inl (T 1, 7, .inr (.inl (fun i => lN (lb ((mt (eig v)) * (mt (eig w))) i))))), (br, .inr (2, [.ref fr])), (fr, .inl (T 1, 7, .inr (.inl (fun i => lN (lb ((mt (eig v * eig w / 8)) * (2 ^ (kb (eig v * eig w / 8) + 1075 - kb (eig v) - kb (eig w)))) i))))), (bg, .inr (2, [.ref fg])), (fg, .inl (T 1, 7, .inr (.inl (fun i => lN (lb ((((mt (eig v)) * (mt (eig w))) - ((mt (eig v * eig w / 8)) * (2 ^ (kb (eig v * eig w / 8) + 1075 - kb (eig v) - kb (eig w)))) + (((mt (eig v * eig w / 8)) * (2 ^ (kb (eig v * eig w / 8) + 1075 - kb (eig v) - kb (eig w)))) - ((mt (eig v)) * (mt (eig w))))) * (2 ^ 50)) i)))))] H := hP
                  have hD : va_D A [(t, .inr (0, [.ref bl, .ref br, .ref bg])), (bl, .inr (2, [.ref fl])), (fl, .inl (T 1, 7, .inr (.inl (fun i => lN (lb ((mt (eig v)) * (mt (eig w))) i))))), (br, .inr (2, [.ref fr])), (fr, .inl (T 1, 7, .inr (.inl (fun i => lN (lb ((mt (eig v * eig w / 8)) * (2 ^ (kb (eig v * eig w / 8) + 1075 - kb (eig v) - kb (eig w)))) i))))), (bg, .inr (2, [.ref fg])), (fg, .inl (T 1, 7, .inr (.inl (fun i => lN (lb ((((mt (eig v)) * (mt (eig w))) - ((mt (eig v * eig w / 8)) * (2 ^ (kb (eig v * eig w / 8) + 1075 - kb (eig v) - kb (eig w)))) + (((mt (eig v * eig w / 8)) * (2 ^ (kb (eig v * eig w / 8) + 1075 - kb (eig v) - kb (eig w)))) - ((mt (eig v)) * (mt (eig w))))) * (2 ^ 50)) i)))))] := hD
                  refine zf_z (x' := true) (congrArg bI (decide_eq_true hcp.2.2)) ?_
                  exact zh_zret (((mt (eig v)) * (mt (eig w))), ((mt (eig v * eig w / 8)) * (2 ^ (kb (eig v * eig w / 8) + 1075 - kb (eig v) - kb (eig w)))), ((((mt (eig v)) * (mt (eig w))) - ((mt (eig v * eig w / 8)) * (2 ^ (kb (eig v * eig w / 8) + 1075 - kb (eig v) - kb (eig w)))) + (((mt (eig v * eig w / 8)) * (2 ^ (kb (eig v * eig w / 8) + 1075 - kb (eig v) - kb (eig w)))) - ((mt (eig v)) * (mt (eig w))))) * (2 ^ 50))) hx hb hr hlocks dX3_isNearProduct_165 hP hD hS (rfl) (rfl)
                · exact absurd (show nI (kb (eig v * eig w / 8) + 1075 - kb (eig v) - kb (eig w)) < nI 60 from nI_lt hcp.2.1 (by decide)) h14
            · exact absurd h12 (by decide)
          · exact absurd (((ed_isZero hre).trans (decide_eq_false (Nat.pos_iff_ne_zero.mp h0r))).symm.trans h11) (by decide)
set_option maxRecDepth 20000 in
theorem c_holdsOfTwo (l : Launch) (D : va_G) (T : Nat → ClassId) (t bl fl br fr bg fg NL NR NG : Nat) (v w : Nat) (hv : v < 262144) (hw : w < 262144) : Hm l yX3_holdsOfTwo cX3_holdsOfTwo 9 (some FieldType.boolean) 4 0 0 D T [.ref t, .int (nI v), .long (edge v), .int (nI w), .long (edge w)] [(t, .inr (0, [.ref bl, .ref br, .ref bg])), (bl, .inr (2, [.ref fl])), (fl, .inl (T 1, 7, .inr (.inl (fun i => lN (lb NL i))))), (br, .inr (2, [.ref fr])), (fr, .inl (T 1, 7, .inr (.inl (fun i => lN (lb NR i))))), (bg, .inr (2, [.ref fg])), (fg, .inl (T 1, 7, .inr (.inl (fun i => lN (lb NG i)))))] (some (.int (bI true))) (fun x : Nat × Nat × Nat => [(t, .inr (0, [.ref bl, .ref br, .ref bg])), (bl, .inr (2, [.ref fl])), (fl, .inl (T 1, 7, .inr (.inl (fun i => lN (lb x.1 i))))), (br, .inr (2, [.ref fr])), (fr, .inl (T 1, 7, .inr (.inl (fun i => lN (lb x.2.1 i))))), (bg, .inr (2, [.ref fg])), (fg, .inl (T 1, 7, .inr (.inl (fun i => lN (lb x.2.2 i)))))]) := by
  refine Hm.of (by decide) (Nat.le_of_ble_eq_true rfl) ?_
  intro zp ze s zm args below zmeth zc hx hb hr hml hown hin hts hlocks A hA hP hK hD hS ls hl
  have hl : lv_has ls 9 [(0, .ref t), (1, .int (nI v)), (2, .long (edge v)), (4, .int (nI w)), (5, .long (edge w))] := hl
  refine lv_iload_n hx hb dX3_holdsOfTwo_0 rfl (lv_at hl 1 rfl) ?_
  refine lv_lload_n hx hb dX3_holdsOfTwo_1 rfl (lv_at hl 2 rfl) ?_
  refine lv_iload hx hb dX3_holdsOfTwo_2 (lv_at hl 3 rfl) ?_
  refine lv_lload hx hb dX3_holdsOfTwo_4 (lv_at hl 4 rfl) ?_
  refine zp_call hx hb hml hown hts k_X3_66 (c_X3_isOrdered l (nI v) (edge v) (nI w) (edge w)) ⟨by decide, by decide⟩ rfl hl.1 [] rfl (Nat.le_of_ble_eq_true rfl) dX3_holdsOfTwo_6 ⟨by decide, by decide⟩ ?_
  refine zf_z (x' := true) (congrArg bI (ed_ord hv hw)) ?_
  refine zb_eq (tgt := 24) hx hb dX3_holdsOfTwo_9 (by decide) (fun h1 => ?_) (fun h1 => ?_)
  · exact absurd h1 (by decide)
  · refine lv_iload hx hb dX3_holdsOfTwo_12 (lv_at hl 3 rfl) ?_
    refine lv_lload hx hb dX3_holdsOfTwo_14 (lv_at hl 4 rfl) ?_
    refine lv_iload_n hx hb dX3_holdsOfTwo_16 rfl (lv_at hl 1 rfl) ?_
    refine lv_lload_n hx hb dX3_holdsOfTwo_17 rfl (lv_at hl 2 rfl) ?_
    refine zp_call hx hb hml hown hts k_X3_66 (c_X3_isOrdered l (nI w) (edge w) (nI v) (edge v)) ⟨by decide, by decide⟩ rfl hl.1 [] rfl (Nat.le_of_ble_eq_true rfl) dX3_holdsOfTwo_18 ⟨by decide, by decide⟩ ?_
    refine zf_z (x' := true) (congrArg bI (ed_ord hw hv)) ?_
    refine zb_ne (tgt := 26) hx hb dX3_holdsOfTwo_21 (by decide) (fun h2 => ?_) (fun h2 => ?_)
    · by_cases hq : eig v * eig w % 8 = 0 ∧ rdC (eig v * eig w / 8) ≤ 65535
      · refine lv_iload_n hx hb dX3_holdsOfTwo_26 rfl (lv_at hl 1 rfl) ?_
        refine lv_iload hx hb dX3_holdsOfTwo_27 (lv_at hl 3 rfl) ?_
        refine zp_call hx hb hml hown hts k_X3_70 (c_X5_productOf l (nI v) (nI w)) ⟨by decide, by decide⟩ rfl hl.1 [] rfl (Nat.le_of_ble_eq_true rfl) dX3_holdsOfTwo_29 ⟨by decide, by decide⟩ ?_
        refine zf_i (x' := nI (rdV (eig v * eig w / 8) (isB v != isB w))) ((mv_product hv hw).trans (if_pos hq)) ?_
        refine lv_istore (lv' := [(7, .int (nI (rdV (eig v * eig w / 8) (isB v != isB w)))), (0, .ref t), (1, .int (nI v)), (2, .long (edge v)), (4, .int (nI w)), (5, .long (edge w))]) hx hb dX3_holdsOfTwo_32 hl (by decide) rfl (fun ls hl => ?_)
        refine lv_iload hx hb dX3_holdsOfTwo_34 (lv_at hl 0 rfl) ?_
        refine lv_iconst (v := (-1)) hx hb dX3_holdsOfTwo_36 (by decide) ?_
        refine lv_icmp_eq (tgt := 57) hx hb dX3_holdsOfTwo_37 (by decide) (fun h3 => ?_) (fun h3 => ?_)
        · exact absurd h3 (nI_nm1 (Nat.lt_trans (rdV_lt hq.2 _) (by decide)))
        · refine lv_aload_n hx hb dX3_holdsOfTwo_40 rfl (lv_at hl 1 rfl) ?_
          refine lv_lload_n hx hb dX3_holdsOfTwo_41 rfl (lv_at hl 3 rfl) ?_
          refine lv_lload hx hb dX3_holdsOfTwo_42 (lv_at hl 5 rfl) ?_
          refine lv_iload hx hb dX3_holdsOfTwo_44 (lv_at hl 0 rfl) ?_
          refine zp_call hx hb hml hown hts k_X3_28 (c_ofVolume l (rdV (eig v * eig w / 8) (isB v != isB w)) (rdV_lt hq.2 _)) ⟨by decide, by decide⟩ rfl hl.1 [.long (edge w), .long (edge v), .ref t] rfl (Nat.le_of_ble_eq_true rfl) dX3_holdsOfTwo_46 ⟨Nat.le_of_ble_eq_true rfl, Nat.le_of_ble_eq_true rfl⟩ ?_
          refine zh_v (T := T) hx hb hml hown hts k_X3_74 (c_isNearProduct l D T t bl fl br fr bg fg NL NR NG v w (hv) (hw) hq) ⟨by decide, by decide⟩ rfl hl.1 [] rfl (Nat.le_of_ble_eq_true rfl) dX3_holdsOfTwo_49 ⟨Nat.le_of_ble_eq_true rfl, Nat.le_of_ble_eq_true rfl⟩ hK hP hD hS hA (ci := 0) rfl rfl rfl [0, 1, 2, 3, 4, 5, 6] [] (wr := []) rfl rfl (by decide) (by decide) (by decide) [0, 1, 2, 3, 4, 5, 6] (fun x3 => [(t, .inr (0, [.ref bl, .ref br, .ref bg])), (bl, .inr (2, [.ref fl])), (fl, .inl (T 1, 7, .inr (.inl (fun i => lN (lb x3.1 i))))), (br, .inr (2, [.ref fr])), (fr, .inl (T 1, 7, .inr (.inl (fun i => lN (lb x3.2.1 i))))), (bg, .inr (2, [.ref fg])), (fg, .inl (T 1, 7, .inr (.inl (fun i => lN (lb x3.2.2 i)))))]) (by decide) (fun _ => rfl) (fun x3 H locs hP hD hS => ?_)
          have hP : va_P D zcl [(t, .inr (0, [.ref bl, .ref br, .ref bg])), (bl, .inr (2, [.ref fl])), (fl, .inl (T 1, 7, .inr (.inl (fun i => lN (lb x3.1 i))))), (br, .inr (2, [.ref fr])), (fr, .inl (T 1, 7, .inr (.inl (fun i => lN (lb x3.2.1 i))))), (bg, .inr (2, [.ref fg])), (fg, .inl (T 1, 7, .inr (.inl (fun i => lN (lb x3.2.2 i)))))] H := hP
          have hD : va_D A [(t, .inr (0, [.ref bl, .ref br, .ref bg])), (bl, .inr (2, [.ref fl])), (fl, .inl (T 1, 7, .inr (.inl (fun i => lN (lb x3.1 i))))), (br, .inr (2, [.ref fr])), (fr, .inl (T 1, 7, .inr (.inl (fun i => lN (lb x3.2.1 i))))), (bg, .inr (2, [.ref fg])), (fg, .inl (T 1, 7, .inr (.inl (fun i => lN (lb x3.2.2 i)))))] := hD
          refine zb_ne (tgt := 57) hx hb dX3_holdsOfTwo_52 (by decide) (fun h4 => ?_) (fun h4 => ?_)
          · refine lv_iload_n hx hb dX3_holdsOfTwo_57 rfl (lv_at hl 2 rfl) ?_
            refine zp_call hx hb hml hown hts k_X3_78 (c_X5_isAboveZero l (nI v)) ⟨by decide, by decide⟩ rfl hl.1 [] rfl (Nat.le_of_ble_eq_true rfl) dX3_holdsOfTwo_58 ⟨by decide, by decide⟩ ?_
            refine zb_eq (tgt := 72) hx hb dX3_holdsOfTwo_61 (by decide) (fun h5 => ?_) (fun h5 => ?_)
            · refine lv_iconst (v := 1) hx hb dX3_holdsOfTwo_72 (by decide) ?_
              exact zh_zret (x3.1, x3.2.1, x3.2.2) hx hb hr hlocks dX3_holdsOfTwo_73 hP hD hS (rfl) (rfl)
            · refine lv_iload hx hb dX3_holdsOfTwo_64 (lv_at hl 4 rfl) ?_
              refine zp_call hx hb hml hown hts k_X3_78 (c_X5_isAboveZero l (nI w)) ⟨by decide, by decide⟩ rfl hl.1 [] rfl (Nat.le_of_ble_eq_true rfl) dX3_holdsOfTwo_66 ⟨by decide, by decide⟩ ?_
              refine zb_ne (tgt := 74) hx hb dX3_holdsOfTwo_69 (by decide) (fun h6 => ?_) (fun h6 => ?_)
              · have ha1 := ((Bool.and_eq_true _ _).mp ((mv_above hv).symm.trans h5))
                have ha2 := ((Bool.and_eq_true _ _).mp ((mv_above hw).symm.trans h6))
                rw [Bool.not_eq_true'] at ha1 ha2
                by_cases hs : rdC (eig v + eig w) ≤ 65535
                · refine lv_iload_n hx hb dX3_holdsOfTwo_74 rfl (lv_at hl 2 rfl) ?_
                  refine lv_iload hx hb dX3_holdsOfTwo_75 (lv_at hl 4 rfl) ?_
                  refine zp_call hx hb hml hown hts k_X3_81 (c_X5_sumOf l (nI v) (nI w)) ⟨by decide, by decide⟩ rfl hl.1 [] rfl (Nat.le_of_ble_eq_true rfl) dX3_holdsOfTwo_77 ⟨by decide, by decide⟩ ?_
                  refine zf_i (x' := nI (rdV (eig v + eig w) false)) ((mv_sum hv hw).trans (if_pos hs)) ?_
                  refine lv_istore (lv' := [(8, .int (nI (rdV (eig v + eig w) false))), (7, .int (nI (rdV (eig v * eig w / 8) (isB v != isB w)))), (0, .ref t), (1, .int (nI v)), (2, .long (edge v)), (4, .int (nI w)), (5, .long (edge w))]) hx hb dX3_holdsOfTwo_80 hl (by decide) rfl (fun ls hl => ?_)
                  refine lv_iload hx hb dX3_holdsOfTwo_82 (lv_at hl 0 rfl) ?_
                  refine lv_iconst (v := (-1)) hx hb dX3_holdsOfTwo_84 (by decide) ?_
                  refine lv_icmp_eq (tgt := 102) hx hb dX3_holdsOfTwo_85 (by decide) (fun h7 => ?_) (fun h7 => ?_)
                  · exact absurd h7 (nI_nm1 (Nat.lt_trans (rdV_lt hs _) (by decide)))
                  · refine lv_iload hx hb dX3_holdsOfTwo_88 (lv_at hl 0 rfl) ?_
                    refine zp_call hx hb hml hown hts k_X3_28 (c_ofVolume l (rdV (eig v + eig w) false) (rdV_lt hs _)) ⟨by decide, by decide⟩ rfl hl.1 [] rfl (Nat.le_of_ble_eq_true rfl) dX3_holdsOfTwo_90 ⟨Nat.le_of_ble_eq_true rfl, Nat.le_of_ble_eq_true rfl⟩ ?_
                    refine lv_lload_n hx hb dX3_holdsOfTwo_93 rfl (lv_at hl 4 rfl) ?_
                    refine lv_lload hx hb dX3_holdsOfTwo_94 (lv_at hl 6 rfl) ?_
                    refine zp_call hx hb hml hown hts k_X3_84 (c_X3_isLessThanSum l (edge (rdV (eig v + eig w) false)) (edge v) (edge w)) ⟨by decide, by decide⟩ rfl hl.1 [] rfl (Nat.le_of_ble_eq_true rfl) dX3_holdsOfTwo_96 ⟨by decide, by decide⟩ ?_
                    refine zf_z (x' := true) (congrArg bI (ed_lts hv hw ha1.1 ha2.1 (of_decide_eq_true ha1.2) (of_decide_eq_true ha2.2) hs)) ?_
                    refine zb_eq (tgt := 106) hx hb dX3_holdsOfTwo_99 (by decide) (fun h8 => ?_) (fun h8 => ?_)
                    · exact absurd h8 (by decide)
                    · refine lv_iconst (v := 1) hx hb dX3_holdsOfTwo_102 (by decide) ?_
                      refine lv_goto (tgt := 107) hx hb dX3_holdsOfTwo_103 (by decide) ?_
                      exact zh_zret (x3.1, x3.2.1, x3.2.2) hx hb hr hlocks dX3_holdsOfTwo_107 hP hD hS (rfl) (rfl)
                · refine lv_iload_n hx hb dX3_holdsOfTwo_74 rfl (lv_at hl 2 rfl) ?_
                  refine lv_iload hx hb dX3_holdsOfTwo_75 (lv_at hl 4 rfl) ?_
                  refine zp_call hx hb hml hown hts k_X3_81 (c_X5_sumOf l (nI v) (nI w)) ⟨by decide, by decide⟩ rfl hl.1 [] rfl (Nat.le_of_ble_eq_true rfl) dX3_holdsOfTwo_77 ⟨by decide, by decide⟩ ?_
                  refine zf_i (x' := (-1)) ((mv_sum hv hw).trans (if_neg hs)) ?_
                  refine lv_istore (lv' := [(8, .int (-1)), (7, .int (nI (rdV (eig v * eig w / 8) (isB v != isB w)))), (0, .ref t), (1, .int (nI v)), (2, .long (edge v)), (4, .int (nI w)), (5, .long (edge w))]) hx hb dX3_holdsOfTwo_80 hl (by decide) rfl (fun ls hl => ?_)
                  refine lv_iload hx hb dX3_holdsOfTwo_82 (lv_at hl 0 rfl) ?_
                  refine lv_iconst (v := (-1)) hx hb dX3_holdsOfTwo_84 (by decide) ?_
                  refine lv_icmp_eq (tgt := 102) hx hb dX3_holdsOfTwo_85 (by decide) (fun h9 => ?_) (fun h9 => ?_)
                  · refine lv_iconst (v := 1) hx hb dX3_holdsOfTwo_102 (by decide) ?_
                    refine lv_goto (tgt := 107) hx hb dX3_holdsOfTwo_103 (by decide) ?_
                    exact zh_zret (x3.1, x3.2.1, x3.2.2) hx hb hr hlocks dX3_holdsOfTwo_107 hP hD hS (rfl) (rfl)
                  · exact absurd h9 (by decide)
              · refine lv_iconst (v := 1) hx hb dX3_holdsOfTwo_72 (by decide) ?_
                exact zh_zret (x3.1, x3.2.1, x3.2.2) hx hb hr hlocks dX3_holdsOfTwo_73 hP hD hS (rfl) (rfl)
          · exact absurd h4 (by decide)
      · refine lv_iload_n hx hb dX3_holdsOfTwo_26 rfl (lv_at hl 1 rfl) ?_
        refine lv_iload hx hb dX3_holdsOfTwo_27 (lv_at hl 3 rfl) ?_
        refine zp_call hx hb hml hown hts k_X3_70 (c_X5_productOf l (nI v) (nI w)) ⟨by decide, by decide⟩ rfl hl.1 [] rfl (Nat.le_of_ble_eq_true rfl) dX3_holdsOfTwo_29 ⟨by decide, by decide⟩ ?_
        refine zf_i (x' := (-1)) ((mv_product hv hw).trans (if_neg hq)) ?_
        refine lv_istore (lv' := [(7, .int (-1)), (0, .ref t), (1, .int (nI v)), (2, .long (edge v)), (4, .int (nI w)), (5, .long (edge w))]) hx hb dX3_holdsOfTwo_32 hl (by decide) rfl (fun ls hl => ?_)
        refine lv_iload hx hb dX3_holdsOfTwo_34 (lv_at hl 0 rfl) ?_
        refine lv_iconst (v := (-1)) hx hb dX3_holdsOfTwo_36 (by decide) ?_
        refine lv_icmp_eq (tgt := 57) hx hb dX3_holdsOfTwo_37 (by decide) (fun h10 => ?_) (fun h10 => ?_)
        · refine lv_iload_n hx hb dX3_holdsOfTwo_57 rfl (lv_at hl 2 rfl) ?_
          refine zp_call hx hb hml hown hts k_X3_78 (c_X5_isAboveZero l (nI v)) ⟨by decide, by decide⟩ rfl hl.1 [] rfl (Nat.le_of_ble_eq_true rfl) dX3_holdsOfTwo_58 ⟨by decide, by decide⟩ ?_
          refine zb_eq (tgt := 72) hx hb dX3_holdsOfTwo_61 (by decide) (fun h11 => ?_) (fun h11 => ?_)
          · refine lv_iconst (v := 1) hx hb dX3_holdsOfTwo_72 (by decide) ?_
            exact zh_zret (NL, NR, NG) hx hb hr hlocks dX3_holdsOfTwo_73 hP hD hS (rfl) (rfl)
          · refine lv_iload hx hb dX3_holdsOfTwo_64 (lv_at hl 4 rfl) ?_
            refine zp_call hx hb hml hown hts k_X3_78 (c_X5_isAboveZero l (nI w)) ⟨by decide, by decide⟩ rfl hl.1 [] rfl (Nat.le_of_ble_eq_true rfl) dX3_holdsOfTwo_66 ⟨by decide, by decide⟩ ?_
            refine zb_ne (tgt := 74) hx hb dX3_holdsOfTwo_69 (by decide) (fun h12 => ?_) (fun h12 => ?_)
            · have ha1 := ((Bool.and_eq_true _ _).mp ((mv_above hv).symm.trans h11))
              have ha2 := ((Bool.and_eq_true _ _).mp ((mv_above hw).symm.trans h12))
              rw [Bool.not_eq_true'] at ha1 ha2
              by_cases hs : rdC (eig v + eig w) ≤ 65535
              · refine lv_iload_n hx hb dX3_holdsOfTwo_74 rfl (lv_at hl 2 rfl) ?_
                refine lv_iload hx hb dX3_holdsOfTwo_75 (lv_at hl 4 rfl) ?_
                refine zp_call hx hb hml hown hts k_X3_81 (c_X5_sumOf l (nI v) (nI w)) ⟨by decide, by decide⟩ rfl hl.1 [] rfl (Nat.le_of_ble_eq_true rfl) dX3_holdsOfTwo_77 ⟨by decide, by decide⟩ ?_
                refine zf_i (x' := nI (rdV (eig v + eig w) false)) ((mv_sum hv hw).trans (if_pos hs)) ?_
                refine lv_istore (lv' := [(8, .int (nI (rdV (eig v + eig w) false))), (7, .int (-1)), (0, .ref t), (1, .int (nI v)), (2, .long (edge v)), (4, .int (nI w)), (5, .long (edge w))]) hx hb dX3_holdsOfTwo_80 hl (by decide) rfl (fun ls hl => ?_)
                refine lv_iload hx hb dX3_holdsOfTwo_82 (lv_at hl 0 rfl) ?_
                refine lv_iconst (v := (-1)) hx hb dX3_holdsOfTwo_84 (by decide) ?_
                refine lv_icmp_eq (tgt := 102) hx hb dX3_holdsOfTwo_85 (by decide) (fun h13 => ?_) (fun h13 => ?_)
                · exact absurd h13 (nI_nm1 (Nat.lt_trans (rdV_lt hs _) (by decide)))
                · refine lv_iload hx hb dX3_holdsOfTwo_88 (lv_at hl 0 rfl) ?_
                  refine zp_call hx hb hml hown hts k_X3_28 (c_ofVolume l (rdV (eig v + eig w) false) (rdV_lt hs _)) ⟨by decide, by decide⟩ rfl hl.1 [] rfl (Nat.le_of_ble_eq_true rfl) dX3_holdsOfTwo_90 ⟨Nat.le_of_ble_eq_true rfl, Nat.le_of_ble_eq_true rfl⟩ ?_
                  refine lv_lload_n hx hb dX3_holdsOfTwo_93 rfl (lv_at hl 4 rfl) ?_
                  refine lv_lload hx hb dX3_holdsOfTwo_94 (lv_at hl 6 rfl) ?_
                  refine zp_call hx hb hml hown hts k_X3_84 (c_X3_isLessThanSum l (edge (rdV (eig v + eig w) false)) (edge v) (edge w)) ⟨by decide, by decide⟩ rfl hl.1 [] rfl (Nat.le_of_ble_eq_true rfl) dX3_holdsOfTwo_96 ⟨by decide, by decide⟩ ?_
                  refine zf_z (x' := true) (congrArg bI (ed_lts hv hw ha1.1 ha2.1 (of_decide_eq_true ha1.2) (of_decide_eq_true ha2.2) hs)) ?_
                  refine zb_eq (tgt := 106) hx hb dX3_holdsOfTwo_99 (by decide) (fun h14 => ?_) (fun h14 => ?_)
                  · exact absurd h14 (by decide)
                  · refine lv_iconst (v := 1) hx hb dX3_holdsOfTwo_102 (by decide) ?_
                    refine lv_goto (tgt := 107) hx hb dX3_holdsOfTwo_103 (by decide) ?_
                    exact zh_zret (NL, NR, NG) hx hb hr hlocks dX3_holdsOfTwo_107 hP hD hS (rfl) (rfl)
              · refine lv_iload_n hx hb dX3_holdsOfTwo_74 rfl (lv_at hl 2 rfl) ?_
                refine lv_iload hx hb dX3_holdsOfTwo_75 (lv_at hl 4 rfl) ?_
                refine zp_call hx hb hml hown hts k_X3_81 (c_X5_sumOf l (nI v) (nI w)) ⟨by decide, by decide⟩ rfl hl.1 [] rfl (Nat.le_of_ble_eq_true rfl) dX3_holdsOfTwo_77 ⟨by decide, by decide⟩ ?_
                refine zf_i (x' := (-1)) ((mv_sum hv hw).trans (if_neg hs)) ?_
                refine lv_istore (lv' := [(8, .int (-1)), (7, .int (-1)), (0, .ref t), (1, .int (nI v)), (2, .long (edge v)), (4, .int (nI w)), (5, .long (edge w))]) hx hb dX3_holdsOfTwo_80 hl (by decide) rfl (fun ls hl => ?_)
                refine lv_iload hx hb dX3_holdsOfTwo_82 (lv_at hl 0 rfl) ?_
                refine lv_iconst (v := (-1)) hx hb dX3_holdsOfTwo_84 (by decide) ?_
                refine lv_icmp_eq (tgt := 102) hx hb dX3_holdsOfTwo_85 (by decide) (fun h15 => ?_) (fun h15 => ?_)
                · refine lv_iconst (v := 1) hx hb dX3_holdsOfTwo_102 (by decide) ?_
                  refine lv_goto (tgt := 107) hx hb dX3_holdsOfTwo_103 (by decide) ?_
                  exact zh_zret (NL, NR, NG) hx hb hr hlocks dX3_holdsOfTwo_107 hP hD hS (rfl) (rfl)
                · exact absurd h15 (by decide)
            · refine lv_iconst (v := 1) hx hb dX3_holdsOfTwo_72 (by decide) ?_
              exact zh_zret (NL, NR, NG) hx hb hr hlocks dX3_holdsOfTwo_73 hP hD hS (rfl) (rfl)
        · exact absurd h10 (by decide)
    · exact absurd h2 (by decide)
