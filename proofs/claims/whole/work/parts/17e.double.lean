/-! The class's own methods on doubles: the bits of a double, a double of its bits, the cube root. -/
theorem fl_cmp {a b : Nat} (ha : fl_ok a) (hb : fl_ok b) (op : CmpOp) : Op.cmpValue (FP.dcmp (S64 a) (S64 b)) op = if a < b then (-1) else if a = b then 0 else 1 := by
  have h1 := ha.2
  have h2 := hb.2
  have na : Jvm.FP.Core.val64 (S64 a) ≠ .nan := by rw [fl_okv false ha]; exact Jvm.FP.Core.Datum.noConfusion
  have nb : Jvm.FP.Core.val64 (S64 b) ≠ .nan := by rw [fl_okv false hb]; exact Jvm.FP.Core.Datum.noConfusion
  have ta : (S64 a).toNat = a := (fl_sgN false (by omega)).trans (by simp)
  have tb : (S64 b).toNat = b := (fl_sgN false (by omega)).trans (by simp)
  obtain ⟨m1, m2, m3⟩ := Jvm.FP.Core.mono_bits na nb (by rw [ta]; omega) (by rw [tb]; omega)
  rw [ta, tb] at m1 m2 m3
  rcases Nat.lt_trichotomy a b with q | q | q
  · rw [show FP.dcmp (S64 a) (S64 b) = some .lt from m1.mpr q, if_pos q]; cases op <;> rfl
  · rw [show FP.dcmp (S64 a) (S64 b) = some .eq from m2.mpr q, if_neg (by omega), if_pos q]; cases op <;> rfl
  · rw [show FP.dcmp (S64 a) (S64 b) = some .gt from m3.mpr q, if_neg (by omega), if_neg (by omega)]; cases op <;> rfl
theorem S64_2 : (4611686018427387904 : UInt64) = S64 4611686018427387904 := by decide +kernel
theorem S64_1 : (FP.dconst1 : UInt64) = S64 4607182418800017408 := by decide +kernel
theorem S64_u : (4841369599423283200 : UInt64) = S64 4841369599423283200 := by decide +kernel
theorem S64_k460306 : (4603064841997850097 : UInt64) = S64 4603064841997850097 := by decide +kernel
theorem S64_k460010 : (4600105333671292343 : UInt64) = S64 4600105333671292343 := by decide +kernel
theorem S64_k460991 : (4609916747145206638 : UInt64) = S64 4609916747145206638 := by decide +kernel
theorem S64_k460904 : (4609048195788499471 : UInt64) = S64 4609048195788499471 := by decide +kernel
theorem S64_k460452 : (4604528052325763124 : UInt64) = S64 4604528052325763124 := by decide +kernel
theorem S64_8 : (4620693217682128896 : UInt64) = S64 4620693217682128896 := by decide +kernel
theorem fl_ok2 : fl_ok 4611686018427387904 := by unfold fl_ok; decide
theorem fl_ok1 : fl_ok 4607182418800017408 := by unfold fl_ok; decide
theorem fl_oku : fl_ok 4841369599423283200 := by unfold fl_ok; decide
theorem fl_ok8 : fl_ok 4620693217682128896 := by unfold fl_ok; decide
theorem fl_c2 {a : Nat} (ha : fl_ok a) (op : CmpOp) : ∃ cv : Int32, Op.cmpValue (FP.dcmp (S64 a) 4611686018427387904) op = cv ∧ (a < 4611686018427387904 → cv < 0) ∧ (4611686018427387904 ≤ a → ¬ cv < 0) := by
  refine ⟨_, rfl, ?_, ?_⟩ <;> intro h <;> rw [S64_2, fl_cmp ha fl_ok2]
  · rw [if_pos h]; decide
  · rw [if_neg (by omega)]; split <;> decide
theorem fl_c1 {a : Nat} (ha : fl_ok a) (op : CmpOp) : ∃ cv : Int32, Op.cmpValue (FP.dcmp (S64 a) FP.dconst1) op = cv ∧ (a < 4607182418800017408 → ¬ 0 ≤ cv) ∧ (4607182418800017408 ≤ a → 0 ≤ cv) := by
  refine ⟨_, rfl, ?_, ?_⟩ <;> intro h <;> rw [S64_1, fl_cmp ha fl_ok1]
  · rw [if_pos h]; decide
  · rw [if_neg (by omega)]; split <;> decide
theorem fl_ar3 {M E J D a U L : Nat} (m1 : U ≤ M) (h3 : M + E - U = a) (h4 : E + J = L + D) : M + D - U = a + J - L := by omega
theorem fl_ar2 {M E J D a : Nat} (m1 : 4503599627370496 ≤ M) (h3 : M + E - 4503599627370496 = a) (h4 : E + J = 4607182418800017408 + D) : M + D - 4503599627370496 = a + J - 4607182418800017408 := fl_ar3 m1 h3 h4
theorem fl_mul2 {a j : Nat} (hj : 1075 ≤ fl_e a + j) : fl_mul a (j * 4503599627370496) = a + j * 4503599627370496 - 4607182418800017408 := by
  have m1 := fl_mb a
  have e1 : fl_m (j * 4503599627370496) = 4503599627370496 := by unfold fl_m; omega
  have e2 : fl_e (j * 4503599627370496) = j := by unfold fl_e; omega
  unfold fl_mul
  rw [e1, e2]
  have hl : (fl_m a * 4503599627370496).log2 = 104 := by
    have q1 := fl_log (p := fl_m a * 4503599627370496) (k := 104) (by omega) (by omega)
    have q2 : 104 ≤ (fl_m a * 4503599627370496).log2 := (Nat.le_log2 (by omega)).mpr (by omega)
    omega
  unfold fl_fin
  rw [if_pos (by omega), hl, show 2 ^ (104 - 52) = 4503599627370496 from rfl, ← fl_near (by decide), Jvm.FP.Core.nearest_exact _ (by decide)]
  have h3 := fl_id a
  obtain ⟨d, hd⟩ : ∃ d, fl_e a + j = 1023 + d := ⟨fl_e a + j - 1023, by omega⟩
  have h4 : fl_e a * 4503599627370496 + j * 4503599627370496 = 4607182418800017408 + d * 4503599627370496 := by
    rw [← Nat.add_mul, hd, Nat.add_mul]
  rw [show fl_e a + j - 1075 + 104 - 52 = d by omega]
  exact fl_ar2 m1.1 h3 h4
theorem fl_sb {a U L K : Nat} (h : K = L + U) : a + L - K = a - U := by omega
theorem fl_sb2 {a U L K : Nat} (h : K = L + U) : a + K - L = a + U := by omega
theorem fl_ar6 {M E J n A B U C : Nat} (m1 : U ≤ M) (h3 : M + E - U = n) (h4 : J + E = C) (hc : C = A + B + U) : M + A + B - J = n := by omega
theorem fl_half {a : Nat} (ha : fl_ok a) : FP.ddiv (S64 a) 4611686018427387904 = S64 (a - 4503599627370496) := by
  rw [S64_2]
  have h1 := fl_oke ha
  refine (fl_ddiv false false ha fl_ok2).trans ?_
  rw [show (4611686018427387904 : Nat) = 1024 * 4503599627370496 from rfl, fl_div2 (by omega) (by omega)]
  exact congrArg (fl_sg false) (fl_sb rfl)
theorem fl_twice {a : Nat} (ha : fl_ok a) : FP.dmul (S64 a) 4611686018427387904 = S64 (a + 4503599627370496) := by
  rw [S64_2]
  have h1 := fl_oke ha
  refine (fl_dmul false false ha fl_ok2).trans ?_
  rw [show (4611686018427387904 : Nat) = 1024 * 4503599627370496 from rfl, fl_mul2 (by omega)]
  exact congrArg (fl_sg false) (fl_sb2 rfl)
theorem fl_up {a : Nat} (ha : fl_ok a) : FP.dmul (S64 a) 4841369599423283200 = S64 (a + 234187180623265792) := by
  rw [S64_u]
  have h1 := fl_oke ha
  refine (fl_dmul false false ha fl_oku).trans ?_
  rw [show (4841369599423283200 : Nat) = 1075 * 4503599627370496 from rfl, fl_mul2 (by omega)]
  exact congrArg (fl_sg false) (fl_sb2 rfl)
theorem fl_int {a : Nat} (ha : fl_ok a) (h : fl_e a = 1075) : FP.d2l (S64 a) = lN (fl_m a) := by
  have m1 := fl_mb a
  refine Jvm.FP.Core.d2l_int ?_
  show Jvm.FP.Core.Whole _ (Jvm.FP.Core.val64 (S64 a))
  rw [fl_okv false ha, h, pk_lT (by omega)]
  show ((fl_m a * 2 ^ (((1075 : Nat) : Int) - 1075).toNat : Nat) : Int) = ((fl_m a : Nat) : Int) * ((2 ^ (-(((1075 : Nat) : Int) - 1075)).toNat : Nat) : Int)
  rw [show (((1075 : Nat) : Int) - 1075).toNat = 0 from rfl, show (-(((1075 : Nat) : Int) - 1075)).toNat = 0 from rfl]
  omega
theorem ng_le : ∀ k, k < 1023 → ¬ -(nI k) ≤ (-1023) := by decide +kernel
theorem ng_dec : ∀ k, k < 1023 → -(nI k) + (-1) = -(nI (k + 1)) := by decide +kernel
theorem ng_add : ∀ k, k < 1023 → -(nI k) + 1023 = nI (1023 - k) := by decide +kernel
theorem ng_sc : ∀ k, k < 1076 → nI k - 1023 - 52 = -(nI (1075 - k)) := by decide +kernel
theorem fl_mant {n : Nat} (hn : n < 2 ^ 64) : m_X0_mantissaOf (lN n) = lN (fl_m n) := by
  unfold m_X0_mantissaOf
  rw [show (4503599627370495 : Int64) = lN (2 ^ 52 - 1) from rfl, wb_mask hn (by decide), show (4503599627370496 : Int64) = lN (2 ^ 52) from rfl, wb_or (by omega) (by omega)]
  have h1 : n % 2 ^ 52 < 2 ^ 52 := Nat.mod_lt _ (by decide)
  have h2 := Nat.two_pow_add_eq_or_of_lt h1 1
  rw [Nat.or_comm, ← (show 2 ^ 52 * 1 = 2 ^ 52 from rfl), ← h2]
  unfold fl_m
  congr 1
  omega
theorem fl_scal {n : Nat} (hn : n < 2 ^ 64) (h : n / 4503599627370496 % 2048 < 1076) : m_X0_scaleOf (lN n) = -(nI (1075 - n / 4503599627370496 % 2048)) := by
  unfold m_X0_scaleOf zlushr
  rw [show (52 : Int32) = nI 52 from rfl, wb_shr hn (by decide), show (2047 : Int64) = lN (2 ^ 11 - 1) from rfl, wb_mask (by omega) (by decide), lN_i]
  exact ng_sc _ h
set_option maxRecDepth 20000 in
/-- a double's bits -/
theorem c_ofNumber (l : Launch) (n0 : Nat) (hn : fl_ok n0) : Pm l yX0_ofNumber cX0_ofNumber 7 (some FieldType.long) 0 [.double (S64 n0)] (some (.long (lN n0))) := by
  refine Pm.of (by decide) (Nat.le_of_ble_eq_true rfl) ?_
  intro zp ze s zm args below zmeth zc hx hb hr hml hown hts hlocks ls hl
  have hl : lv_has ls 7 [(0, .double (S64 n0))] := hl
  obtain ⟨hn1, hn2⟩ := hn
  refine lv_dload_n hx hb dX0_ofNumber_0 rfl (lv_at hl 0 rfl) ?_
  refine lv_dstore_n (lv' := [(2, .double (S64 n0)), (0, .double (S64 n0))]) hx hb dX0_ofNumber_1 rfl hl (by decide) rfl (fun ls hl => ?_)
  refine lv_iconst (v := 0) hx hb dX0_ofNumber_2 (by decide) ?_
  refine lv_istore (lv' := [(4, .int 0), (2, .double (S64 n0)), (0, .double (S64 n0))]) hx hb dX0_ofNumber_3 hl (by decide) rfl (fun ls hl => ?_)
  by_cases hc : 4607182418800017408 ≤ n0
  · have lp : ∀ (n : Nat) (a : Nat) (k : Nat), a / 4503599627370496 = 1023 + n → a + k * 4503599627370496 = n0 → ∀ ls : Array Slot, lv_has ls 7 [(4, .int (nI k)), (2, .double (S64 a)), (0, .double (S64 n0))] → W zp l ze (zR 0 0 0) s zm args below zmeth zc s.heap [] 0 0 (MQ below (zQp (some (.long (lN n0)))) args s 0 0 (fun _ => False)) (F0 zm 5 ls []) := by
      intro n
      induction n with
      | zero =>
        intro a k h1 h2 ls hl
        obtain ⟨c2, e_c2, l_c2, g_c2⟩ := fl_c2 (a := a) (show fl_ok a by unfold fl_ok; omega) .l
        obtain ⟨c1, e_c1, l_c1, g_c1⟩ := fl_c1 (a := a) (show fl_ok a by unfold fl_ok; omega) .g
        refine lv_iload hx hb dX0_ofNumber_5 (lv_at hl 0 rfl) ?_
        refine lv_sipush (v := 1023) hx hb dX0_ofNumber_7 (by decide) ?_
        refine lv_icmp_ge (tgt := 33) hx hb dX0_ofNumber_10 (by decide) (fun h1 => ?_) (fun h1 => ?_)
        · exact absurd h1 (show ¬ nI 1023 ≤ nI k from nI_ge (by omega) (by decide))
        · refine lv_dload_n hx hb dX0_ofNumber_13 rfl (lv_at hl 1 rfl) ?_
          refine lv_ldc2d hx hb hown (hts _ u214) dX0_ofNumber_14 ?_
          refine lv_dcmp hx hb dX0_ofNumber_17 ?_
          refine zf_i (x' := c2) (e_c2) ?_
          refine lv_if_lt (tgt := 33) hx hb dX0_ofNumber_18 (by decide) (fun h2 => ?_) (fun h2 => ?_)
          · refine lv_iload hx hb dX0_ofNumber_33 (lv_at hl 0 rfl) ?_
            refine lv_sipush (v := (-1023)) hx hb dX0_ofNumber_35 (by decide) ?_
            refine lv_icmp_le (tgt := 59) hx hb dX0_ofNumber_38 (by decide) (fun h3 => ?_) (fun h3 => ?_)
            · exact absurd h3 (fun q => absurd (Int32.le_trans (Int32.not_lt.mp (nI_pos (n := k) (by omega))) q) (by decide))
            · refine lv_dload_n hx hb dX0_ofNumber_41 rfl (lv_at hl 1 rfl) ?_
              refine lv_dconst1 hx hb dX0_ofNumber_42 ?_
              refine lv_dcmp hx hb dX0_ofNumber_43 ?_
              refine zf_i (x' := c1) (e_c1) ?_
              refine lv_if_ge (tgt := 59) hx hb dX0_ofNumber_44 (by decide) (fun h4 => ?_) (fun h4 => ?_)
              · refine lv_dload_n hx hb dX0_ofNumber_59 rfl (lv_at hl 1 rfl) ?_
                refine lv_ldc2d hx hb hown (hts _ u215) dX0_ofNumber_60 ?_
                refine lv_dmul hx hb dX0_ofNumber_63 (by rw [fl_up (show fl_ok a by unfold fl_ok; omega)]; exact fl_nn false (by unfold fl_ok; omega)) ?_
                refine zf_d (x' := S64 (a + 234187180623265792)) (fl_up (show fl_ok a by unfold fl_ok; omega)) ?_
                refine lv_d2l hx hb dX0_ofNumber_64 ?_
                refine zf_l (x' := lN (fl_m n0)) ((fl_int (a := a + 234187180623265792) (by unfold fl_ok; omega) (by unfold fl_e; omega)).trans (congrArg lN (by unfold fl_m; omega))) ?_
                refine lv_lstore (lv' := [(5, .long (lN (fl_m n0))), (4, .int (nI k)), (2, .double (S64 a)), (0, .double (S64 n0))]) hx hb dX0_ofNumber_65 hl (by decide) rfl (fun ls hl => ?_)
                refine lv_iload hx hb dX0_ofNumber_67 (lv_at hl 1 rfl) ?_
                refine lv_sipush (v := 1023) hx hb dX0_ofNumber_69 (by decide) ?_
                refine lv_iadd hx hb dX0_ofNumber_72 ?_
                refine zf_i (x' := nI (fl_e n0)) ((show nI k + nI 1023 = _ from nI_add _ _).trans (congrArg nI (by unfold fl_e; omega))) ?_
                refine lv_i2l hx hb dX0_ofNumber_73 rfl ?_
                refine zf_l (x' := lN (fl_e n0)) (nI_l (by unfold fl_e; omega)) ?_
                refine lv_bipush (v := 52) hx hb dX0_ofNumber_74 (by decide) ?_
                refine lv_lshl hx hb dX0_ofNumber_76 rfl ?_
                refine zf_l (x' := lN (fl_e n0 * 2 ^ 52)) (zlshl_N _ 52 (by decide)) ?_
                refine lv_lload hx hb dX0_ofNumber_77 (lv_at hl 0 rfl) ?_
                refine lv_ldc2 hx hb hown (hts _ u180) dX0_ofNumber_79 ?_
                refine lv_lsub hx hb dX0_ofNumber_82 ?_
                refine zf_l (x' := lN (fl_m n0 - 4503599627370496)) (show lN (fl_m n0) - lN 4503599627370496 = _ from lN_sub (fl_mb n0).1) ?_
                refine lv_ladd hx hb dX0_ofNumber_83 ?_
                refine zf_l (x' := lN n0) ((lN_add _ _).trans (congrArg lN (by unfold fl_e fl_m; omega))) ?_
                exact zp_lret hx hb hr hlocks dX0_ofNumber_84 (rfl)
              · exact absurd (g_c1 (by omega)) h4
          · exact absurd (l_c2 (by omega)) h2
      | succ n ih =>
        intro a k h1 h2 ls hl
        obtain ⟨c2, e_c2, l_c2, g_c2⟩ := fl_c2 (a := a) (show fl_ok a by unfold fl_ok; omega) .l
        refine lv_iload hx hb dX0_ofNumber_5 (lv_at hl 0 rfl) ?_
        refine lv_sipush (v := 1023) hx hb dX0_ofNumber_7 (by decide) ?_
        refine lv_icmp_ge (tgt := 33) hx hb dX0_ofNumber_10 (by decide) (fun h5 => ?_) (fun h5 => ?_)
        · exact absurd h5 (show ¬ nI 1023 ≤ nI k from nI_ge (by omega) (by decide))
        · refine lv_dload_n hx hb dX0_ofNumber_13 rfl (lv_at hl 1 rfl) ?_
          refine lv_ldc2d hx hb hown (hts _ u214) dX0_ofNumber_14 ?_
          refine lv_dcmp hx hb dX0_ofNumber_17 ?_
          refine zf_i (x' := c2) (e_c2) ?_
          refine lv_if_lt (tgt := 33) hx hb dX0_ofNumber_18 (by decide) (fun h6 => ?_) (fun h6 => ?_)
          · exact absurd h6 (g_c2 (by omega))
          · refine lv_dload_n hx hb dX0_ofNumber_21 rfl (lv_at hl 1 rfl) ?_
            refine lv_ldc2d hx hb hown (hts _ u214) dX0_ofNumber_22 ?_
            refine lv_ddiv hx hb dX0_ofNumber_25 (by rw [fl_half (show fl_ok a by unfold fl_ok; omega)]; exact fl_nn false (by unfold fl_ok; omega)) ?_
            refine zf_d (x' := S64 (a - 4503599627370496)) (fl_half (by unfold fl_ok; omega)) ?_
            refine lv_dstore_n (lv' := [(2, .double (S64 (a - 4503599627370496))), (4, .int (nI k)), (0, .double (S64 n0))]) hx hb dX0_ofNumber_26 rfl hl (by decide) rfl (fun ls hl => ?_)
            refine lv_iinc (v := nI (k + 1)) (lv' := [(4, .int (nI (k + 1))), (2, .double (S64 (a - 4503599627370496))), (0, .double (S64 n0))]) hx hb dX0_ofNumber_27 hl (k := 1) rfl ((nI_add k 1)) (by decide) rfl (fun ls hl => ?_)
            refine lv_goto (tgt := 5) hx hb dX0_ofNumber_30 (by decide) ?_
            exact ih (a - 4503599627370496) (k + 1) (by omega) (by omega) ls (lv_sub hl [0, 1, 2] rfl)
    exact lp (n0 / 4503599627370496 - 1023) n0 0 (by omega) (by omega) ls (lv_sub hl [0, 1, 2] rfl)
  · obtain ⟨c2, e_c2, l_c2, g_c2⟩ := fl_c2 (a := n0) (show fl_ok n0 by unfold fl_ok; omega) .l
    refine lv_iload hx hb dX0_ofNumber_5 (lv_at hl 0 rfl) ?_
    refine lv_sipush (v := 1023) hx hb dX0_ofNumber_7 (by decide) ?_
    refine lv_icmp_ge (tgt := 33) hx hb dX0_ofNumber_10 (by decide) (fun h7 => ?_) (fun h7 => ?_)
    · exact absurd h7 (by decide)
    · refine lv_dload_n hx hb dX0_ofNumber_13 rfl (lv_at hl 1 rfl) ?_
      refine lv_ldc2d hx hb hown (hts _ u214) dX0_ofNumber_14 ?_
      refine lv_dcmp hx hb dX0_ofNumber_17 ?_
      refine zf_i (x' := c2) (e_c2) ?_
      refine lv_if_lt (tgt := 33) hx hb dX0_ofNumber_18 (by decide) (fun h8 => ?_) (fun h8 => ?_)
      · have lp : ∀ (n : Nat) (a : Nat) (k : Nat), a / 4503599627370496 + n = 1023 → a = n0 + k * 4503599627370496 → ∀ ls : Array Slot, lv_has ls 7 [(4, .int (-(nI k))), (2, .double (S64 a)), (0, .double (S64 n0))] → W zp l ze (zR 0 0 0) s zm args below zmeth zc s.heap [] 0 0 (MQ below (zQp (some (.long (lN n0)))) args s 0 0 (fun _ => False)) (F0 zm 33 ls []) := by
          intro n
          induction n with
          | zero =>
            intro a k h1 h2 ls hl
            obtain ⟨c1, e_c1, l_c1, g_c1⟩ := fl_c1 (a := a) (show fl_ok a by unfold fl_ok; omega) .g
            refine lv_iload hx hb dX0_ofNumber_33 (lv_at hl 0 rfl) ?_
            refine lv_sipush (v := (-1023)) hx hb dX0_ofNumber_35 (by decide) ?_
            refine lv_icmp_le (tgt := 59) hx hb dX0_ofNumber_38 (by decide) (fun h9 => ?_) (fun h9 => ?_)
            · exact absurd h9 (ng_le k (by omega))
            · refine lv_dload_n hx hb dX0_ofNumber_41 rfl (lv_at hl 1 rfl) ?_
              refine lv_dconst1 hx hb dX0_ofNumber_42 ?_
              refine lv_dcmp hx hb dX0_ofNumber_43 ?_
              refine zf_i (x' := c1) (e_c1) ?_
              refine lv_if_ge (tgt := 59) hx hb dX0_ofNumber_44 (by decide) (fun h10 => ?_) (fun h10 => ?_)
              · refine lv_dload_n hx hb dX0_ofNumber_59 rfl (lv_at hl 1 rfl) ?_
                refine lv_ldc2d hx hb hown (hts _ u215) dX0_ofNumber_60 ?_
                refine lv_dmul hx hb dX0_ofNumber_63 (by rw [fl_up (show fl_ok a by unfold fl_ok; omega)]; exact fl_nn false (by unfold fl_ok; omega)) ?_
                refine zf_d (x' := S64 (a + 234187180623265792)) (fl_up (show fl_ok a by unfold fl_ok; omega)) ?_
                refine lv_d2l hx hb dX0_ofNumber_64 ?_
                refine zf_l (x' := lN (fl_m n0)) ((fl_int (a := a + 234187180623265792) (by unfold fl_ok; omega) (by unfold fl_e; omega)).trans (congrArg lN (by unfold fl_m; omega))) ?_
                refine lv_lstore (lv' := [(5, .long (lN (fl_m n0))), (4, .int (-(nI k))), (2, .double (S64 a)), (0, .double (S64 n0))]) hx hb dX0_ofNumber_65 hl (by decide) rfl (fun ls hl => ?_)
                refine lv_iload hx hb dX0_ofNumber_67 (lv_at hl 1 rfl) ?_
                refine lv_sipush (v := 1023) hx hb dX0_ofNumber_69 (by decide) ?_
                refine lv_iadd hx hb dX0_ofNumber_72 ?_
                refine zf_i (x' := nI (fl_e n0)) ((ng_add k (by omega)).trans (congrArg nI (by unfold fl_e; omega))) ?_
                refine lv_i2l hx hb dX0_ofNumber_73 rfl ?_
                refine zf_l (x' := lN (fl_e n0)) (nI_l (by unfold fl_e; omega)) ?_
                refine lv_bipush (v := 52) hx hb dX0_ofNumber_74 (by decide) ?_
                refine lv_lshl hx hb dX0_ofNumber_76 rfl ?_
                refine zf_l (x' := lN (fl_e n0 * 2 ^ 52)) (zlshl_N _ 52 (by decide)) ?_
                refine lv_lload hx hb dX0_ofNumber_77 (lv_at hl 0 rfl) ?_
                refine lv_ldc2 hx hb hown (hts _ u180) dX0_ofNumber_79 ?_
                refine lv_lsub hx hb dX0_ofNumber_82 ?_
                refine zf_l (x' := lN (fl_m n0 - 4503599627370496)) (show lN (fl_m n0) - lN 4503599627370496 = _ from lN_sub (fl_mb n0).1) ?_
                refine lv_ladd hx hb dX0_ofNumber_83 ?_
                refine zf_l (x' := lN n0) ((lN_add _ _).trans (congrArg lN (by unfold fl_e fl_m; omega))) ?_
                exact zp_lret hx hb hr hlocks dX0_ofNumber_84 (rfl)
              · exact absurd (g_c1 (by omega)) h10
          | succ n ih =>
            intro a k h1 h2 ls hl
            obtain ⟨c1, e_c1, l_c1, g_c1⟩ := fl_c1 (a := a) (show fl_ok a by unfold fl_ok; omega) .g
            refine lv_iload hx hb dX0_ofNumber_33 (lv_at hl 0 rfl) ?_
            refine lv_sipush (v := (-1023)) hx hb dX0_ofNumber_35 (by decide) ?_
            refine lv_icmp_le (tgt := 59) hx hb dX0_ofNumber_38 (by decide) (fun h11 => ?_) (fun h11 => ?_)
            · exact absurd h11 (ng_le k (by omega))
            · refine lv_dload_n hx hb dX0_ofNumber_41 rfl (lv_at hl 1 rfl) ?_
              refine lv_dconst1 hx hb dX0_ofNumber_42 ?_
              refine lv_dcmp hx hb dX0_ofNumber_43 ?_
              refine zf_i (x' := c1) (e_c1) ?_
              refine lv_if_ge (tgt := 59) hx hb dX0_ofNumber_44 (by decide) (fun h12 => ?_) (fun h12 => ?_)
              · exact absurd h12 (l_c1 (by omega))
              · refine lv_dload_n hx hb dX0_ofNumber_47 rfl (lv_at hl 1 rfl) ?_
                refine lv_ldc2d hx hb hown (hts _ u214) dX0_ofNumber_48 ?_
                refine lv_dmul hx hb dX0_ofNumber_51 (by rw [fl_twice (show fl_ok a by unfold fl_ok; omega)]; exact fl_nn false (by unfold fl_ok; omega)) ?_
                refine zf_d (x' := S64 (a + 4503599627370496)) (fl_twice (by unfold fl_ok; omega)) ?_
                refine lv_dstore_n (lv' := [(2, .double (S64 (a + 4503599627370496))), (4, .int (-(nI k))), (0, .double (S64 n0))]) hx hb dX0_ofNumber_52 rfl hl (by decide) rfl (fun ls hl => ?_)
                refine lv_iinc (v := -(nI (k + 1))) (lv' := [(4, .int (-(nI (k + 1)))), (2, .double (S64 (a + 4503599627370496))), (0, .double (S64 n0))]) hx hb dX0_ofNumber_53 hl (k := 1) rfl ((ng_dec k (by omega))) (by decide) rfl (fun ls hl => ?_)
                refine lv_goto (tgt := 33) hx hb dX0_ofNumber_56 (by decide) ?_
                exact ih (a + 4503599627370496) (k + 1) (by omega) (by omega) ls (lv_sub hl [0, 1, 2] rfl)
        exact lp (1023 - n0 / 4503599627370496) n0 0 (by omega) (by omega) ls (lv_sub hl [0, 1, 2] rfl)
      · exact absurd (l_c2 (by omega)) h8
set_option maxRecDepth 20000 in
/-- a double of its bits -/
theorem c_toNumber (l : Launch) (n0 : Nat) (hn : fl_okT n0) : Pm l yX0_toNumber cX0_toNumber 2 (some FieldType.double) 1 [.long (lN n0)] (some (.double (S64 n0))) := by
  refine Pm.of (by decide) (Nat.le_of_ble_eq_true rfl) ?_
  intro zp ze s zm args below zmeth zc hx hb hr hml hown hts hlocks ls hl
  have hl : lv_has ls 2 [(0, .long (lN n0))] := hl
  obtain ⟨hn1, hn2⟩ := hn
  have m1 := fl_mb n0
  have me : fl_m (fl_m n0 + 4836865999795912704) = fl_m n0 := by unfold fl_m; omega
  have ee : fl_e (fl_m n0 + 4836865999795912704) = 1075 := by unfold fl_e fl_m; omega
  have o1 : fl_ok (fl_m n0 + 4836865999795912704) := by unfold fl_ok; omega
  have o2 : fl_ok ((1023 + (1075 - fl_e n0)) * 4503599627370496) := by unfold fl_ok fl_e; omega
  have h7 : 1013 ≤ fl_e n0 ∧ fl_e n0 ≤ 1075 := by unfold fl_e; omega
  have h6 : (1023 + (1075 - fl_e n0)) * 4503599627370496 + fl_e n0 * 4503599627370496 = 2098 * 4503599627370496 := by rw [← Nat.add_mul, show 1023 + (1075 - fl_e n0) + fl_e n0 = 2098 by omega]
  have hq : FP.ddiv (S64 (fl_m n0 + 4836865999795912704)) (S64 ((1023 + (1075 - fl_e n0)) * 4503599627370496)) = S64 n0 := (fl_ddiv false false o1 o2).trans (congrArg S64 ((fl_div2 (a := fl_m n0 + 4836865999795912704) (j := 1023 + (1075 - fl_e n0)) (by rw [ee]; omega) (by omega)).trans (fl_ar6 m1.1 (fl_id n0) h6 rfl)))
  refine lv_lload_n hx hb dX0_toNumber_0 rfl (lv_at hl 0 rfl) ?_
  refine zp_call hx hb hml hown hts k_X0_15 (c_X0_mantissaOf l (lN n0)) ⟨by decide, by decide⟩ rfl hl.1 [] rfl (Nat.le_of_ble_eq_true rfl) dX0_toNumber_1 ⟨by decide, by decide⟩ ?_
  refine zf_l (x' := lN (fl_m n0)) (fl_mant (by omega)) ?_
  refine lv_l2d hx hb dX0_toNumber_4 ?_
  refine zf_d (x' := S64 (fl_m n0 + 4836865999795912704)) ((fl_l2d (by omega) (by omega)).trans (congrArg S64 (fl_fin1 m1.1 m1.2))) ?_
  refine lv_lconst (v := 1) hx hb dX0_toNumber_5 (by decide) ?_
  refine lv_lload_n hx hb dX0_toNumber_6 rfl (lv_at hl 0 rfl) ?_
  refine zp_call hx hb hml hown hts k_X0_19 (c_X0_scaleOf l (lN n0)) ⟨by decide, by decide⟩ rfl hl.1 [.long 1, .double (S64 (fl_m n0 + 4836865999795912704))] rfl (Nat.le_of_ble_eq_true rfl) dX0_toNumber_7 ⟨by decide, by decide⟩ ?_
  refine zf_i (x' := -(nI (1075 - fl_e n0))) ((fl_scal (by omega) (by omega)).trans (congrArg (fun q => -(nI (1075 - q))) (show n0 / 4503599627370496 % 2048 = fl_e n0 by unfold fl_e; omega))) ?_
  refine lv_ineg hx hb dX0_toNumber_10 ?_
  refine zf_i (x' := nI (1075 - fl_e n0)) (Int32.neg_neg) ?_
  refine lv_lshl hx hb dX0_toNumber_11 rfl ?_
  refine zf_l (x' := lN (2 ^ (1075 - fl_e n0))) ((show zlshl (lN 1) (nI (1075 - fl_e n0)) = _ from zlshl_N 1 _ (by unfold fl_e; omega)).trans (congrArg lN (Nat.one_mul _))) ?_
  refine lv_l2d hx hb dX0_toNumber_12 ?_
  refine zf_d (x' := S64 ((1023 + (1075 - fl_e n0)) * 4503599627370496)) ((fl_l2d (Nat.two_pow_pos _) (Nat.lt_of_le_of_lt (Nat.pow_le_pow_right (by decide) (show 1075 - fl_e n0 ≤ 62 by unfold fl_e; omega)) (by decide))).trans (congrArg S64 (fl_fin2 (by unfold fl_e; omega)))) ?_
  refine lv_ddiv hx hb dX0_toNumber_13 (by rw [hq]; exact fl_nn false (by unfold fl_ok; omega)) ?_
  refine zf_d (x' := S64 n0) (hq) ?_
  exact zp_dret hx hb hr hlocks dX0_toNumber_14 (rfl)
theorem fl_dx {e0 : Nat} (hv : vol e0) : FP.ddiv (S64 (fl_fin e0 1075)) 4620693217682128896 = S64 (fl_x e0) := by
  have h0 := hv.1
  have h1 := hv.2.1
  have hl := fl_log (p := e0) (k := 19) (by omega) (by omega)
  have hp : 2 ^ e0.log2 ≤ e0 := Nat.log2_self_le (by omega)
  have hq : e0 < 2 ^ (e0.log2 + 1) := Nat.lt_log2_self
  have ho : fl_ok (fl_fin e0 1075) := by
    unfold fl_fin
    rw [if_neg (by omega)]
    have a3 : 2 ^ e0.log2 * 2 ^ (52 - e0.log2) = 4503599627370496 := by
      rw [← Nat.pow_add, show e0.log2 + (52 - e0.log2) = 52 by omega]
    have a4 : e0 * 2 ^ (52 - e0.log2) < 9007199254740992 := by
      have := Nat.mul_lt_mul_of_pos_right hq (Nat.two_pow_pos (52 - e0.log2))
      rw [Nat.pow_succ, Nat.mul_right_comm, a3] at this
      exact this
    unfold fl_ok
    omega
  rw [S64_8]
  exact fl_ddiv false false ho fl_ok8
set_option maxRecDepth 20000 in
/-- the cube root -/
theorem c_ofEighths (l : Launch) (e0 : Nat) (hv : vol e0) : Pm l yX1_ofEighths cX1_ofEighths 11 (some FieldType.long) 2 [.int (nI e0)] (some (.long (lN (cbB e0)))) := by
  refine Pm.of (by decide) (Nat.le_of_ble_eq_true rfl) ?_
  intro zp ze s zm args below zmeth zc hx hb hr hml hown hts hlocks ls hl
  have hl : lv_has ls 11 [(0, .int (nI e0))] := hl
  obtain ⟨kc, hch⟩ := vol_ch hv
  obtain ⟨hX, hT0, h5, h6, d_v_1, d_v_2, d_v_3, d_v_s, d_v_w, d_v_d, d_v_v, d_v_g, d_v_h, d_v_5, d_v_7, d_v_8, n1, n2, n3, n4, n5, i1, e1, i2, e2, i3, e3, i4, e4, i5, e5, e6, o9, -⟩ := fl_ch hch
  have hv2 := hv.2.1
  have hdx := fl_dx hv
  have hX2 := hX.2
  have h52 := h5.2
  refine lv_iload_n hx hb dX1_ofEighths_0 rfl (lv_at hl 0 rfl) ?_
  refine lv_i2d hx hb dX1_ofEighths_1 ?_
  refine zf_d (x' := S64 (fl_fin e0 1075)) (fl_i2d hv.1 (by omega)) ?_
  refine lv_ldc2d hx hb hown (hts _ u210) dX1_ofEighths_2 ?_
  refine lv_ddiv hx hb dX1_ofEighths_5 (by rw [hdx]; exact fl_nn false hX) ?_
  refine zf_d (x' := S64 (fl_x e0)) (hdx) ?_
  refine lv_dstore_n (lv' := [(1, .double (S64 (fl_x e0))), (0, .int (nI e0))]) hx hb dX1_ofEighths_6 rfl hl (by decide) rfl (fun ls hl => ?_)
  refine lv_dload_n hx hb dX1_ofEighths_7 rfl (lv_at hl 0 rfl) ?_
  refine zp_call hx hb hml hown hts k_X1_9 (c_ofNumber l (fl_x e0) hX) ⟨by decide, by decide⟩ rfl hl.1 [] rfl (Nat.le_of_ble_eq_true rfl) dX1_ofEighths_8 ⟨Nat.le_of_ble_eq_true rfl, Nat.le_of_ble_eq_true rfl⟩ ?_
  refine lv_bipush (v := 32) hx hb dX1_ofEighths_11 (by decide) ?_
  refine lv_lushr hx hb dX1_ofEighths_13 rfl ?_
  refine zf_l (x' := lN ((fl_x e0) / 4294967296)) (wb_shr (k := 32) (by omega) (by decide)) ?_
  refine lv_lstore_n (lv' := [(3, .long (lN ((fl_x e0) / 4294967296))), (1, .double (S64 (fl_x e0))), (0, .int (nI e0))]) hx hb dX1_ofEighths_14 rfl hl (by decide) rfl (fun ls hl => ?_)
  refine lv_lload_n hx hb dX1_ofEighths_15 rfl (lv_at hl 0 rfl) ?_
  refine lv_ldc2 hx hb hown (hts _ u216) dX1_ofEighths_16 ?_
  refine lv_ldiv hx hb dX1_ofEighths_19 (by decide) ?_
  refine zf_l (x' := lN ((fl_x e0) / 4294967296 / 3)) (pk_lDiv (b := 3) (by omega) (by decide) (by decide)) ?_
  refine lv_ldc2 hx hb hown (hts _ u217) dX1_ofEighths_20 ?_
  refine lv_ladd hx hb dX1_ofEighths_23 ?_
  refine zf_l (x' := lN ((fl_x e0) / 4294967296 / 3 + 715094163)) (show lN _ + lN 715094163 = _ from lN_add _ _) ?_
  refine lv_bipush (v := 32) hx hb dX1_ofEighths_24 (by decide) ?_
  refine lv_lshl hx hb dX1_ofEighths_26 rfl ?_
  refine zf_l (x' := lN (fl_t0 (fl_x e0))) (zlshl_N _ 32 (by decide)) ?_
  refine zp_call hx hb hml hown hts k_X1_21 (c_toNumber l (fl_t0 (fl_x e0)) hT0) ⟨by decide, by decide⟩ rfl hl.1 [] rfl (Nat.le_of_ble_eq_true rfl) dX1_ofEighths_27 ⟨Nat.le_of_ble_eq_true rfl, Nat.le_of_ble_eq_true rfl⟩ ?_
  refine lv_dstore (lv' := [(5, .double (S64 (fl_t0 (fl_x e0)))), (3, .long (lN ((fl_x e0) / 4294967296))), (1, .double (S64 (fl_x e0))), (0, .int (nI e0))]) hx hb dX1_ofEighths_30 hl (by decide) rfl (fun ls hl => ?_)
  refine lv_dload hx hb dX1_ofEighths_32 (lv_at hl 0 rfl) ?_
  refine lv_dload hx hb dX1_ofEighths_34 (lv_at hl 0 rfl) ?_
  refine lv_dmul hx hb dX1_ofEighths_36 (d_v_1.2) ?_
  refine zf_d (x' := S64 (v_1 (fl_x e0))) (d_v_1.1) ?_
  refine lv_dload_n hx hb dX1_ofEighths_37 rfl (lv_at hl 2 rfl) ?_
  refine lv_ddiv hx hb dX1_ofEighths_38 (d_v_2.2) ?_
  refine zf_d (x' := S64 (v_2 (fl_x e0))) (d_v_2.1) ?_
  refine lv_dstore (lv' := [(7, .double (S64 (v_2 (fl_x e0)))), (5, .double (S64 (fl_t0 (fl_x e0)))), (3, .long (lN ((fl_x e0) / 4294967296))), (1, .double (S64 (fl_x e0))), (0, .int (nI e0))]) hx hb dX1_ofEighths_39 hl (by decide) rfl (fun ls hl => ?_)
  refine lv_ldc2d hx hb hown (hts _ u223) dX1_ofEighths_41 ?_
  refine zf_d (x' := S64 4603064841997850097) (S64_k460306) ?_
  refine lv_dload hx hb dX1_ofEighths_44 (lv_at hl 0 rfl) ?_
  refine lv_dload hx hb dX1_ofEighths_46 (lv_at hl 1 rfl) ?_
  refine lv_dmul hx hb dX1_ofEighths_48 (d_v_3.2) ?_
  refine zf_d (x' := S64 (v_3 (fl_x e0))) (d_v_3.1) ?_
  refine lv_dadd hx hb dX1_ofEighths_49 (d_v_s.2) ?_
  refine zf_d (x' := S64 (v_s (fl_x e0))) (d_v_s.1) ?_
  refine lv_dstore (lv' := [(9, .double (S64 (v_s (fl_x e0)))), (7, .double (S64 (v_2 (fl_x e0)))), (5, .double (S64 (fl_t0 (fl_x e0)))), (3, .long (lN ((fl_x e0) / 4294967296))), (1, .double (S64 (fl_x e0))), (0, .int (nI e0))]) hx hb dX1_ofEighths_50 hl (by decide) rfl (fun ls hl => ?_)
  refine lv_dload hx hb dX1_ofEighths_52 (lv_at hl 2 rfl) ?_
  refine lv_ldc2d hx hb hown (hts _ u224) dX1_ofEighths_54 ?_
  refine zf_d (x' := S64 4600105333671292343) (S64_k460010) ?_
  refine lv_ldc2d hx hb hown (hts _ u225) dX1_ofEighths_57 ?_
  refine zf_d (x' := S64 4609916747145206638) (S64_k460991) ?_
  refine lv_dload hx hb dX1_ofEighths_60 (lv_at hl 0 rfl) ?_
  refine lv_ldc2d hx hb hown (hts _ u226) dX1_ofEighths_62 ?_
  refine zf_d (x' := S64 4609048195788499471) (S64_k460904) ?_
  refine lv_dadd hx hb dX1_ofEighths_65 (d_v_w.2) ?_
  refine zf_d (x' := S64 (v_w (fl_x e0))) (d_v_w.1) ?_
  refine lv_ldc2d hx hb hown (hts _ u227) dX1_ofEighths_66 ?_
  refine zf_d (x' := S64 4604528052325763124) (S64_k460452) ?_
  refine lv_dload hx hb dX1_ofEighths_69 (lv_at hl 0 rfl) ?_
  refine lv_ddiv hx hb dX1_ofEighths_71 (d_v_d.2) ?_
  refine zf_d (x' := S64 (v_d (fl_x e0))) (d_v_d.1) ?_
  refine lv_dsub hx hb dX1_ofEighths_72 (d_v_v.2) ?_
  refine zf_d (x' := S64 (v_v (fl_x e0))) (d_v_v.1) ?_
  refine lv_ddiv hx hb dX1_ofEighths_73 (d_v_g.2) ?_
  refine zf_d (x' := S64 (v_g (fl_x e0))) (d_v_g.1) ?_
  refine lv_dadd hx hb dX1_ofEighths_74 (d_v_h.2) ?_
  refine zf_d (x' := S64 (v_h (fl_x e0))) (d_v_h.1) ?_
  refine lv_dmul hx hb dX1_ofEighths_75 (d_v_5.2) ?_
  refine zf_d (x' := S64 (v_5 (fl_x e0))) (d_v_5.1) ?_
  refine lv_dstore (lv' := [(5, .double (S64 (v_5 (fl_x e0)))), (9, .double (S64 (v_s (fl_x e0)))), (7, .double (S64 (v_2 (fl_x e0)))), (3, .long (lN ((fl_x e0) / 4294967296))), (1, .double (S64 (fl_x e0))), (0, .int (nI e0))]) hx hb dX1_ofEighths_76 hl (by decide) rfl (fun ls hl => ?_)
  refine lv_dload hx hb dX1_ofEighths_78 (lv_at hl 0 rfl) ?_
  refine zp_call hx hb hml hown hts k_X1_9 (c_ofNumber l (v_5 (fl_x e0)) h5) ⟨by decide, by decide⟩ rfl hl.1 [] rfl (Nat.le_of_ble_eq_true rfl) dX1_ofEighths_80 ⟨Nat.le_of_ble_eq_true rfl, Nat.le_of_ble_eq_true rfl⟩ ?_
  refine lv_bipush (v := 32) hx hb dX1_ofEighths_83 (by decide) ?_
  refine lv_lushr hx hb dX1_ofEighths_85 rfl ?_
  refine zf_l (x' := lN (v_5 (fl_x e0) / 4294967296)) (wb_shr (k := 32) (by omega) (by decide)) ?_
  refine lv_lstore_n (lv' := [(3, .long (lN (v_5 (fl_x e0) / 4294967296))), (5, .double (S64 (v_5 (fl_x e0)))), (9, .double (S64 (v_s (fl_x e0)))), (7, .double (S64 (v_2 (fl_x e0)))), (1, .double (S64 (fl_x e0))), (0, .int (nI e0))]) hx hb dX1_ofEighths_86 rfl hl (by decide) rfl (fun ls hl => ?_)
  refine lv_lload_n hx hb dX1_ofEighths_87 rfl (lv_at hl 0 rfl) ?_
  refine lv_lconst (v := 1) hx hb dX1_ofEighths_88 (by decide) ?_
  refine lv_ladd hx hb dX1_ofEighths_89 ?_
  refine zf_l (x' := lN (v_5 (fl_x e0) / 4294967296 + 1)) (show lN _ + lN 1 = _ from lN_add _ _) ?_
  refine lv_bipush (v := 32) hx hb dX1_ofEighths_90 (by decide) ?_
  refine lv_lshl hx hb dX1_ofEighths_92 rfl ?_
  refine zf_l (x' := lN (v_6 (fl_x e0))) (zlshl_N _ 32 (by decide)) ?_
  refine zp_call hx hb hml hown hts k_X1_21 (c_toNumber l (v_6 (fl_x e0)) h6) ⟨by decide, by decide⟩ rfl hl.1 [] rfl (Nat.le_of_ble_eq_true rfl) dX1_ofEighths_93 ⟨Nat.le_of_ble_eq_true rfl, Nat.le_of_ble_eq_true rfl⟩ ?_
  refine lv_dstore (lv' := [(5, .double (S64 (v_6 (fl_x e0)))), (3, .long (lN (v_5 (fl_x e0) / 4294967296))), (9, .double (S64 (v_s (fl_x e0)))), (7, .double (S64 (v_2 (fl_x e0)))), (1, .double (S64 (fl_x e0))), (0, .int (nI e0))]) hx hb dX1_ofEighths_96 hl (by decide) rfl (fun ls hl => ?_)
  refine lv_dload hx hb dX1_ofEighths_98 (lv_at hl 0 rfl) ?_
  refine lv_dload hx hb dX1_ofEighths_100 (lv_at hl 0 rfl) ?_
  refine lv_dmul hx hb dX1_ofEighths_102 (d_v_7.2) ?_
  refine zf_d (x' := S64 (v_7 (fl_x e0))) (d_v_7.1) ?_
  refine lv_dstore (lv' := [(9, .double (S64 (v_7 (fl_x e0)))), (5, .double (S64 (v_6 (fl_x e0)))), (3, .long (lN (v_5 (fl_x e0) / 4294967296))), (7, .double (S64 (v_2 (fl_x e0)))), (1, .double (S64 (fl_x e0))), (0, .int (nI e0))]) hx hb dX1_ofEighths_103 hl (by decide) rfl (fun ls hl => ?_)
  refine lv_dload_n hx hb dX1_ofEighths_105 rfl (lv_at hl 4 rfl) ?_
  refine lv_dload hx hb dX1_ofEighths_106 (lv_at hl 0 rfl) ?_
  refine lv_ddiv hx hb dX1_ofEighths_108 (d_v_8.2) ?_
  refine zf_d (x' := S64 (v_8 (fl_x e0))) (d_v_8.1) ?_
  refine lv_dstore (lv' := [(7, .double (S64 (v_8 (fl_x e0)))), (9, .double (S64 (v_7 (fl_x e0)))), (5, .double (S64 (v_6 (fl_x e0)))), (3, .long (lN (v_5 (fl_x e0) / 4294967296))), (1, .double (S64 (fl_x e0))), (0, .int (nI e0))]) hx hb dX1_ofEighths_109 hl (by decide) rfl (fun ls hl => ?_)
  refine lv_dload hx hb dX1_ofEighths_111 (lv_at hl 0 rfl) ?_
  refine lv_dload hx hb dX1_ofEighths_113 (lv_at hl 2 rfl) ?_
  refine lv_dsub hx hb dX1_ofEighths_115 (by rw [e1]; exact i1) ?_
  refine zf_d (x' := n1) (e1) ?_
  refine lv_dload hx hb dX1_ofEighths_116 (lv_at hl 2 rfl) ?_
  refine lv_dload hx hb dX1_ofEighths_118 (lv_at hl 2 rfl) ?_
  refine lv_dadd hx hb dX1_ofEighths_120 (by rw [e2]; exact i2) ?_
  refine zf_d (x' := n2) (e2) ?_
  refine lv_dload hx hb dX1_ofEighths_121 (lv_at hl 0 rfl) ?_
  refine lv_dadd hx hb dX1_ofEighths_123 (by rw [e3]; exact i3) ?_
  refine zf_d (x' := n3) (e3) ?_
  refine lv_ddiv hx hb dX1_ofEighths_124 (by rw [e4]; exact i4) ?_
  refine zf_d (x' := n4) (e4) ?_
  refine lv_dstore (lv' := [(7, .double n4), (9, .double (S64 (v_7 (fl_x e0)))), (5, .double (S64 (v_6 (fl_x e0)))), (3, .long (lN (v_5 (fl_x e0) / 4294967296))), (1, .double (S64 (fl_x e0))), (0, .int (nI e0))]) hx hb dX1_ofEighths_125 hl (by decide) rfl (fun ls hl => ?_)
  refine lv_dload hx hb dX1_ofEighths_127 (lv_at hl 2 rfl) ?_
  refine lv_dload hx hb dX1_ofEighths_129 (lv_at hl 2 rfl) ?_
  refine lv_dload hx hb dX1_ofEighths_131 (lv_at hl 0 rfl) ?_
  refine lv_dmul hx hb dX1_ofEighths_133 (by rw [e5]; exact i5) ?_
  refine zf_d (x' := n5) (e5) ?_
  refine lv_dadd hx hb dX1_ofEighths_134 (by rw [e6]; exact fl_nn false o9) ?_
  refine zf_d (x' := S64 (cbB e0)) (e6) ?_
  refine zp_call hx hb hml hown hts k_X1_9 (c_ofNumber l (cbB e0) o9) ⟨by decide, by decide⟩ rfl hl.1 [] rfl (Nat.le_of_ble_eq_true rfl) dX1_ofEighths_135 ⟨Nat.le_of_ble_eq_true rfl, Nat.le_of_ble_eq_true rfl⟩ ?_
  exact zp_lret hx hb hr hlocks dX1_ofEighths_138 (rfl)
