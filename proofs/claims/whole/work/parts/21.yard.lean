/-! The class Cubeyard: what needs the places alone. -/
theorem up_e (f : Nat → Nat) (p v : Nat) (k : Nat) : (if k = p then edge v else edge (f k)) = edge (up f p v k) := by
  unfold up
  split <;> rfl
theorem ltB_t {v w : Nat} (h : ltB v w = true) : sgN v < sgN w := of_decide_eq_true h
theorem ltB_f {v w : Nat} (h : ltB v w = false) : sgN w ≤ sgN v := Int.not_lt.mp (of_decide_eq_false h)
theorem sgI_i {v : Nat} (h : v < 262144) : (sgI v).toInt = sgN v := by
  have h1 := eig_lt h
  unfold sgI sgN
  split
  · rw [Int32.toInt_neg, nI_toInt (by omega)]
    exact Int.bmod_eq_of_le (by omega) (by omega)
  · exact nI_toInt (by omega)
theorem sgI_le {v w : Nat} (hv : v < 262144) (hw : w < 262144) : sgI v ≤ sgI w ↔ sgN v ≤ sgN w := by rw [Int32.le_iff_toInt_le, sgI_i hv, sgI_i hw]
theorem ord_m1 {v w : Nat} (hv : v < 262144) (hw : w < 262144) (h : ltB v w = true) : (-1 : Int32) = ordI v w := by
  have := ltB_t h
  unfold ordI
  rw [if_neg (fun q => absurd ((sgI_le hw hv).mp q) (by omega))]
theorem ord_1 {v w : Nat} (hv : v < 262144) (hw : w < 262144) (h : ltB w v = true) : (1 : Int32) = ordI v w := by
  have := ltB_t h
  unfold ordI
  rw [if_pos ((sgI_le hw hv).mpr (by omega)), if_neg (fun q => absurd ((sgI_le hv hw).mp q) (by omega))]
theorem ord_0 {v w : Nat} (hv : v < 262144) (hw : w < 262144) (h : ltB v w = false) (h2 : ltB w v = false) : (0 : Int32) = ordI v w := by
  have := ltB_f h
  have := ltB_f h2
  unfold ordI
  rw [if_pos ((sgI_le hw hv).mpr (by omega)), if_pos ((sgI_le hv hw).mpr (by omega))]
theorem gN_tell (v c : Nat) : 4 * c + v % 4 = gN v c := by
  unfold gN mk isB isE
  have h : v % 4 = 0 ∨ v % 4 = 1 ∨ v % 4 = 2 ∨ v % 4 = 3 := by omega
  rcases h with h | h | h | h
  · rw [show v / 2 % 2 = 0 by omega, show v % 2 = 0 by omega, h]; rfl
  · rw [show v / 2 % 2 = 0 by omega, show v % 2 = 1 by omega, h]; rfl
  · rw [show v / 2 % 2 = 1 by omega, show v % 2 = 0 by omega, h]; rfl
  · rw [show v / 2 % 2 = 1 by omega, show v % 2 = 1 by omega, h]; rfl
theorem cnt_out {y : Int64} (h : y < 0 ∨ 65535 < y) : m_X5_isCount y = false := by
  unfold m_X5_isCount
  by_cases h1 : y < 0
  · rw [if_pos h1]
  · rw [if_neg h1, if_pos (h.elim (fun q => absurd q h1) id)]
theorem cnt_put {y : Int32} (h : y < 0 ∨ ¬ y ≤ 65535) : m_X5_isCount (Int32.toInt64 y) = false := by
  refine cnt_out (h.imp (fun q => ?_) (fun q => ?_))
  · rw [Int64.lt_iff_toInt_lt, Int32.toInt_toInt64]
    exact Int32.lt_iff_toInt_lt.mp q
  · rw [Int64.lt_iff_toInt_lt, Int32.toInt_toInt64]
    exact Int32.lt_iff_toInt_lt.mp (Int32.not_le.mp q)
theorem is_f {x : Int32} (h : ¬ m_X8_is x = true) : m_X8_is x = false := by simpa using h
theorem is_2 {x y : Int32} (h : (m_X8_is x && m_X8_is y) = false) (q : m_X8_is x = true) : m_X8_is y = false := by rw [q] at h; exact h
theorem is_3 {x y z : Int32} (h : (m_X8_is x && m_X8_is y && m_X8_is z) = false) (q : m_X8_is x = true) (q2 : m_X8_is y = true) : m_X8_is z = false := by rw [q, q2] at h; exact h
theorem is_1 {x : Int32} (h : m_X8_is x = true) : ¬ x < 0 ∧ x < 8 := by
  unfold m_X8_is at h
  by_cases h1 : x < 0
  · rw [if_pos h1] at h; exact absurd h (by decide)
  · rw [if_neg h1] at h
    by_cases h2 : 8 ≤ x
    · rw [if_pos h2] at h; exact absurd h (by decide)
    · exact ⟨h1, Int32.not_le.mp h2⟩
theorem is_0 {x : Int32} (h : m_X8_is x = false) (h1 : ¬ x < 0) : ¬ x < 8 := fun q => by
  unfold m_X8_is at h
  rw [if_neg h1, if_neg (Int32.not_le.mpr q)] at h
  exact absurd h (by decide)
set_option maxRecDepth 20000 in
theorem c_needPlace (l : Launch) (x : Int32) (h0 : m_X8_is x = true) : Pm l yX7_needPlace cX7_needPlace 1 none 0 [.int x] none := by
  refine Pm.of (by decide) (Nat.le_of_ble_eq_true rfl) ?_
  intro zp ze s zm args below zmeth zc hx hb hr hml hown hts hlocks ls hl
  have hl : lv_has ls 1 [(0, .int x)] := hl
  refine lv_iload_n hx hb dX7_needPlace_0 rfl (lv_at hl 0 rfl) ?_
  refine lv_if_lt (tgt := 10) hx hb dX7_needPlace_1 (by decide) (fun h1 => ?_) (fun h1 => ?_)
  · exact absurd h1 (is_1 h0).1
  · refine lv_iload_n hx hb dX7_needPlace_4 rfl (lv_at hl 0 rfl) ?_
    refine lv_bipush (v := 8) hx hb dX7_needPlace_5 (by decide) ?_
    refine lv_icmp_lt (tgt := 20) hx hb dX7_needPlace_7 (by decide) (fun h2 => ?_) (fun h2 => ?_)
    · exact zp_vret hx hb hr hlocks dX7_needPlace_20
    · exact absurd (is_1 h0).2 h2
set_option maxRecDepth 20000 in
theorem t_needPlace (l : Launch) (hlf : l.stackTraces = false) (D : va_G) (T : Nat → ClassId) (x : Int32) (hx0 : m_X8_is x = false) : Tm l yX7_needPlace cX7_needPlace 1 none 6 D T [.int x] [] "java/lang/IndexOutOfBoundsException" := by
  refine Tm.of (by decide) (Nat.le_of_ble_eq_true rfl) ?_
  intro zp ze s zm args below zmeth zc hx hb hr hml hown hts hlocks hout A hA hP hK hD hS hZ ls hl
  have hl : lv_has ls 1 [(0, .int x)] := hl
  refine lv_iload_n hx hb dX7_needPlace_0 rfl (lv_at hl 0 rfl) ?_
  refine lv_if_lt (tgt := 10) hx hb dX7_needPlace_1 (by decide) (fun h1 => ?_) (fun h1 => ?_)
  · exact zt_throw hx hb hlf hml hown hts hlocks hout (by decide +kernel) u423 u24 (List.mem_of_getElem? (i := 0) rfl) xg_226 xn_226 xo_226 hP hD hS hZ hl.1 (by decide) (Nat.le_of_ble_eq_true rfl) dX7_needPlace_10 dX7_needPlace_13 dX7_needPlace_14 dX7_needPlace_16 dX7_needPlace_19
  · refine lv_iload_n hx hb dX7_needPlace_4 rfl (lv_at hl 0 rfl) ?_
    refine lv_bipush (v := 8) hx hb dX7_needPlace_5 (by decide) ?_
    refine lv_icmp_lt (tgt := 20) hx hb dX7_needPlace_7 (by decide) (fun h2 => ?_) (fun h2 => ?_)
    · exact absurd h2 (is_0 hx0 h1)
    · exact zt_throw hx hb hlf hml hown hts hlocks hout (by decide +kernel) u423 u24 (List.mem_of_getElem? (i := 0) rfl) xg_226 xn_226 xo_226 hP hD hS hZ hl.1 (by decide) (Nat.le_of_ble_eq_true rfl) dX7_needPlace_10 dX7_needPlace_13 dX7_needPlace_14 dX7_needPlace_16 dX7_needPlace_19
set_option maxRecDepth 20000 in
theorem c_needAboveZero (l : Launch) (v : Nat) (hv : v < 262144) (h0 : isB v = false ∧ ¬ v / 4 = 0) : Pm l yX7_needAboveZero cX7_needAboveZero 1 none 2 [.int (nI v)] none := by
  refine Pm.of (by decide) (Nat.le_of_ble_eq_true rfl) ?_
  intro zp ze s zm args below zmeth zc hx hb hr hml hown hts hlocks ls hl
  have hl : lv_has ls 1 [(0, .int (nI v))] := hl
  refine lv_iload_n hx hb dX7_needAboveZero_0 rfl (lv_at hl 0 rfl) ?_
  refine zp_call hx hb hml hown hts k_X7_227 (c_X5_isAboveZero l (nI v)) ⟨by decide, by decide⟩ rfl hl.1 [] rfl (Nat.le_of_ble_eq_true rfl) dX7_needAboveZero_1 ⟨by decide, by decide⟩ ?_
  refine zb_ne (tgt := 17) hx hb dX7_needAboveZero_4 (by decide) (fun h1 => ?_) (fun h1 => ?_)
  · exact zp_vret hx hb hr hlocks dX7_needAboveZero_17
  · exact absurd (((mv_above hv).trans (by rw [h0.1, decide_eq_true (Nat.pos_of_ne_zero h0.2)])).symm.trans h1) (by decide)
set_option maxRecDepth 20000 in
theorem t_needAboveZero (l : Launch) (hlf : l.stackTraces = false) (D : va_G) (T : Nat → ClassId) (v : Nat) (hv : v < 262144) (h0 : ¬ (isB v = false ∧ ¬ v / 4 = 0)) : Tm l yX7_needAboveZero cX7_needAboveZero 1 none 6 D T [.int (nI v)] [] "java/lang/IllegalArgumentException" := by
  refine Tm.of (by decide) (Nat.le_of_ble_eq_true rfl) ?_
  intro zp ze s zm args below zmeth zc hx hb hr hml hown hts hlocks hout A hA hP hK hD hS hZ ls hl
  have hl : lv_has ls 1 [(0, .int (nI v))] := hl
  have hq : m_X5_isAboveZero (nI v) = false := by
    rw [mv_above hv]
    by_cases h1 : isB v = true
    · rw [h1]; rfl
    · rw [decide_eq_false (fun q => h0 ⟨by simpa using h1, by omega⟩), Bool.and_false]
  refine lv_iload_n hx hb dX7_needAboveZero_0 rfl (lv_at hl 0 rfl) ?_
  refine zp_call hx hb hml hown hts k_X7_227 (c_X5_isAboveZero l (nI v)) ⟨by decide, by decide⟩ rfl hl.1 [] rfl (Nat.le_of_ble_eq_true rfl) dX7_needAboveZero_1 ⟨by decide, by decide⟩ ?_
  refine zb_ne (tgt := 17) hx hb dX7_needAboveZero_4 (by decide) (fun h1 => ?_) (fun h1 => ?_)
  · exact absurd (hq.symm.trans h1) (by decide)
  · exact zt_throw hx hb hlf hml hown hts hlocks hout (by decide +kernel) u437 u28 (List.mem_of_getElem? (i := 7) rfl) xg_45 xn_45 xo_45 hP hD hS hZ hl.1 (by decide) (Nat.le_of_ble_eq_true rfl) dX7_needAboveZero_7 dX7_needAboveZero_10 dX7_needAboveZero_11 dX7_needAboveZero_13 dX7_needAboveZero_16
set_option maxRecDepth 20000 in
theorem c_X7_write (l : Launch) (D : va_G) (T : Nat → ClassId) (x vs es o t : Nat) (yv : Nat → Nat) (p : Nat) (hp : p < 8) (v : Nat) (hv : v < 262144) : Hm l yX7_write cX7_write 3 none 4 0 0 D T [.ref x, .int (nI p), .int (nI v)] [(x, .inr (3, [.ref vs, .ref es, .ref o, .ref t])), (vs, .inl (T 0, 8, .inl (fun k => nI (yv k)))), (es, .inl (T 1, 8, .inr (.inl (fun k => edge (yv k)))))] none (fun _ : Unit => [(x, .inr (3, [.ref vs, .ref es, .ref o, .ref t])), (vs, .inl (T 0, 8, .inl (fun k => nI ((up yv p v) k)))), (es, .inl (T 1, 8, .inr (.inl (fun k => edge ((up yv p v) k)))))]) := by
  refine Hm.of (by decide) (Nat.le_of_ble_eq_true rfl) ?_
  intro zp ze s zm args below zmeth zc hx hb hr hml hown hin hts hlocks A hA hP hK hD hS ls hl
  have hl : lv_has ls 3 [(0, .ref x), (1, .int (nI p)), (2, .int (nI v))] := hl
  refine lv_aload_n hx hb dX7_write_0 rfl (lv_at hl 0 rfl) ?_
  refine va_get (D := D) (ci := 3) (v := .ref vs) (C := RX7) (T := TX7) (N := 4) hx hb hts i_X7 hown hK hP 0 rfl rfl 0 (by decide) (hts _ u90) (fun _ h9 => h9) rfl dX7_write_1 ?_
  refine lv_iload_n hx hb dX7_write_4 rfl (lv_at hl 1 rfl) ?_
  refine lv_iload_n hx hb dX7_write_5 rfl (lv_at hl 2 rfl) ?_
  refine za_iast hx hb hK hP hD hS 1 rfl p (rfl) (by omega) (by decide) (fun k => nI (up yv p v k)) (up_6 yv p v) dX7_write_6 (fun H locs hP hD hS => ?_)
  have hP : va_P D zcl [(x, .inr (3, [.ref vs, .ref es, .ref o, .ref t])), (vs, .inl (T 0, 8, .inl (fun k => nI (up yv p v k)))), (es, .inl (T 1, 8, .inr (.inl (fun k => edge (yv k)))))] H := hP
  have hD : va_D A [(x, .inr (3, [.ref vs, .ref es, .ref o, .ref t])), (vs, .inl (T 0, 8, .inl (fun k => nI (up yv p v k)))), (es, .inl (T 1, 8, .inr (.inl (fun k => edge (yv k)))))] := hD
  refine lv_aload_n hx hb dX7_write_7 rfl (lv_at hl 0 rfl) ?_
  refine va_get (D := D) (ci := 3) (v := .ref es) (C := RX7) (T := TX7) (N := 4) hx hb hts i_X7 hown hK hP 0 rfl rfl 1 (by decide) (hts _ u91) (fun _ h9 => h9) rfl dX7_write_8 ?_
  refine lv_iload_n hx hb dX7_write_11 rfl (lv_at hl 1 rfl) ?_
  refine lv_iload_n hx hb dX7_write_12 rfl (lv_at hl 2 rfl) ?_
  refine zp_call hx hb hml hown hts k_X7_163 (c_ofVolume l v (hv)) ⟨by decide, by decide⟩ rfl hl.1 [.int (nI p), .ref es] rfl (Nat.le_of_ble_eq_true rfl) dX7_write_13 ⟨Nat.le_of_ble_eq_true rfl, Nat.le_of_ble_eq_true rfl⟩ ?_
  refine za_last hx hb hK hP hD hS 2 rfl p (rfl) (by omega) (by decide) (fun k => edge (up yv p v k)) (up_e yv p v) dX7_write_16 (fun H locs hP hD hS => ?_)
  have hP : va_P D zcl [(x, .inr (3, [.ref vs, .ref es, .ref o, .ref t])), (vs, .inl (T 0, 8, .inl (fun k => nI (up yv p v k)))), (es, .inl (T 1, 8, .inr (.inl (fun k => edge (up yv p v k)))))] H := hP
  have hD : va_D A [(x, .inr (3, [.ref vs, .ref es, .ref o, .ref t])), (vs, .inl (T 0, 8, .inl (fun k => nI (up yv p v k)))), (es, .inl (T 1, 8, .inr (.inl (fun k => edge (up yv p v k)))))] := hD
  exact zh_vret () hx hb hr hlocks dX7_write_17 hP hD hS (rfl)
set_option maxRecDepth 20000 in
theorem c_X7_volume_ok (l : Launch) (D : va_G) (T : Nat → ClassId) (x vs es o t : Nat) (yv : Nat → Nat) (p : Nat) (hp : p < 8) (hy : ∀ k, yv k < 262144) : Hm l yX7_volume cX7_volume 2 (some FieldType.int) 3 0 0 D T [.ref x, .int (nI p)] [(x, .inr (3, [.ref vs, .ref es, .ref o, .ref t])), (vs, .inl (T 0, 8, .inl (fun k => nI (yv k)))), (es, .inl (T 1, 8, .inr (.inl (fun k => edge (yv k)))))] (some (.int (sgI (yv p)))) (fun _ : Unit => [(x, .inr (3, [.ref vs, .ref es, .ref o, .ref t])), (vs, .inl (T 0, 8, .inl (fun k => nI (yv k)))), (es, .inl (T 1, 8, .inr (.inl (fun k => edge (yv k)))))]) := by
  refine Hm.of (by decide) (Nat.le_of_ble_eq_true rfl) ?_
  intro zp ze s zm args below zmeth zc hx hb hr hml hown hin hts hlocks A hA hP hK hD hS ls hl
  have hl : lv_has ls 2 [(0, .ref x), (1, .int (nI p))] := hl
  refine lv_iload_n hx hb dX7_volume_0 rfl (lv_at hl 1 rfl) ?_
  refine zp_callv hx hb hml hown hts k_X7_31 (c_needPlace l (nI p) (is_ok hp)) ⟨by decide, by decide⟩ rfl hl.1 [] rfl (Nat.le_of_ble_eq_true rfl) dX7_volume_1 ⟨Nat.le_of_ble_eq_true rfl, Nat.le_of_ble_eq_true rfl⟩ ?_
  refine lv_aload_n hx hb dX7_volume_4 rfl (lv_at hl 0 rfl) ?_
  refine va_get (D := D) (ci := 3) (v := .ref vs) (C := RX7) (T := TX7) (N := 4) hx hb hts i_X7 hown hK hP 0 rfl rfl 0 (by decide) (hts _ u90) (fun _ h9 => h9) rfl dX7_volume_5 ?_
  refine lv_iload_n hx hb dX7_volume_8 rfl (lv_at hl 1 rfl) ?_
  refine za_iald hx hb hK hP 1 rfl p (rfl) (by omega) (by decide) dX7_volume_9 ?_
  refine zp_call hx hb hml hown hts k_X7_62 (c_X5_signedOf l (nI (yv p))) ⟨by decide, by decide⟩ rfl hl.1 [] rfl (Nat.le_of_ble_eq_true rfl) dX7_volume_10 ⟨Nat.le_of_ble_eq_true rfl, Nat.le_of_ble_eq_true rfl⟩ ?_
  refine zf_i (x' := sgI (yv p)) (mv_signed (hy p)) ?_
  exact zh_iret () hx hb hr hlocks dX7_volume_13 hP hD hS (rfl) (rfl)
set_option maxRecDepth 20000 in
theorem c_X7_kind_ok (l : Launch) (D : va_G) (T : Nat → ClassId) (x vs es o t : Nat) (yv : Nat → Nat) (p : Nat) (hp : p < 8) (hy : ∀ k, yv k < 262144) : Hm l yX7_kind cX7_kind 2 (some FieldType.int) 1 0 0 D T [.ref x, .int (nI p)] [(x, .inr (3, [.ref vs, .ref es, .ref o, .ref t])), (vs, .inl (T 0, 8, .inl (fun k => nI (yv k)))), (es, .inl (T 1, 8, .inr (.inl (fun k => edge (yv k)))))] (some (.int (nI (yv p % 4)))) (fun _ : Unit => [(x, .inr (3, [.ref vs, .ref es, .ref o, .ref t])), (vs, .inl (T 0, 8, .inl (fun k => nI (yv k)))), (es, .inl (T 1, 8, .inr (.inl (fun k => edge (yv k)))))]) := by
  refine Hm.of (by decide) (Nat.le_of_ble_eq_true rfl) ?_
  intro zp ze s zm args below zmeth zc hx hb hr hml hown hin hts hlocks A hA hP hK hD hS ls hl
  have hl : lv_has ls 2 [(0, .ref x), (1, .int (nI p))] := hl
  refine lv_iload_n hx hb dX7_kind_0 rfl (lv_at hl 1 rfl) ?_
  refine zp_callv hx hb hml hown hts k_X7_31 (c_needPlace l (nI p) (is_ok hp)) ⟨by decide, by decide⟩ rfl hl.1 [] rfl (Nat.le_of_ble_eq_true rfl) dX7_kind_1 ⟨Nat.le_of_ble_eq_true rfl, Nat.le_of_ble_eq_true rfl⟩ ?_
  refine lv_aload_n hx hb dX7_kind_4 rfl (lv_at hl 0 rfl) ?_
  refine va_get (D := D) (ci := 3) (v := .ref vs) (C := RX7) (T := TX7) (N := 4) hx hb hts i_X7 hown hK hP 0 rfl rfl 0 (by decide) (hts _ u90) (fun _ h9 => h9) rfl dX7_kind_5 ?_
  refine lv_iload_n hx hb dX7_kind_8 rfl (lv_at hl 1 rfl) ?_
  refine za_iald hx hb hK hP 1 rfl p (rfl) (by omega) (by decide) dX7_kind_9 ?_
  refine zp_call hx hb hml hown hts k_X7_66 (c_X5_kindOf l (nI (yv p))) ⟨by decide, by decide⟩ rfl hl.1 [] rfl (Nat.le_of_ble_eq_true rfl) dX7_kind_10 ⟨Nat.le_of_ble_eq_true rfl, Nat.le_of_ble_eq_true rfl⟩ ?_
  refine zf_i (x' := nI (yv p % 4)) (mv_kind _) ?_
  exact zh_iret () hx hb hr hlocks dX7_kind_13 hP hD hS (rfl) (rfl)
set_option maxRecDepth 20000 in
theorem c_X7_fine_ok (l : Launch) (D : va_G) (T : Nat → ClassId) (x vs es o t : Nat) (yv : Nat → Nat) (p : Nat) (hp : p < 8) (hy : ∀ k, yv k < 262144) : Hm l yX7_fine cX7_fine 2 (some FieldType.int) 3 0 0 D T [.ref x, .int (nI p)] [(x, .inr (3, [.ref vs, .ref es, .ref o, .ref t])), (vs, .inl (T 0, 8, .inl (fun k => nI (yv k)))), (es, .inl (T 1, 8, .inr (.inl (fun k => edge (yv k)))))] (some (.int (fI (yv p)))) (fun _ : Unit => [(x, .inr (3, [.ref vs, .ref es, .ref o, .ref t])), (vs, .inl (T 0, 8, .inl (fun k => nI (yv k)))), (es, .inl (T 1, 8, .inr (.inl (fun k => edge (yv k)))))]) := by
  refine Hm.of (by decide) (Nat.le_of_ble_eq_true rfl) ?_
  intro zp ze s zm args below zmeth zc hx hb hr hml hown hin hts hlocks A hA hP hK hD hS ls hl
  have hl : lv_has ls 2 [(0, .ref x), (1, .int (nI p))] := hl
  refine lv_iload_n hx hb dX7_fine_0 rfl (lv_at hl 1 rfl) ?_
  refine zp_callv hx hb hml hown hts k_X7_31 (c_needPlace l (nI p) (is_ok hp)) ⟨by decide, by decide⟩ rfl hl.1 [] rfl (Nat.le_of_ble_eq_true rfl) dX7_fine_1 ⟨Nat.le_of_ble_eq_true rfl, Nat.le_of_ble_eq_true rfl⟩ ?_
  refine lv_aload_n hx hb dX7_fine_4 rfl (lv_at hl 0 rfl) ?_
  refine va_get (D := D) (ci := 3) (v := .ref es) (C := RX7) (T := TX7) (N := 4) hx hb hts i_X7 hown hK hP 0 rfl rfl 1 (by decide) (hts _ u91) (fun _ h9 => h9) rfl dX7_fine_5 ?_
  refine lv_iload_n hx hb dX7_fine_8 rfl (lv_at hl 1 rfl) ?_
  refine za_lald hx hb hK hP 2 rfl p (rfl) (by omega) (by decide) dX7_fine_9 ?_
  refine zp_call hx hb hml hown hts k_X7_56 (c_X2_fineOf l (edge (yv p))) ⟨by decide, by decide⟩ rfl hl.1 [] rfl (Nat.le_of_ble_eq_true rfl) dX7_fine_10 ⟨by decide, by decide⟩ ?_
  refine zf_i (x' := fI (yv p)) (ed_fine (hy p)) ?_
  exact zh_iret () hx hb hr hlocks dX7_fine_13 hP hD hS (rfl) (rfl)
set_option maxRecDepth 20000 in
theorem c_X7_whole_ok (l : Launch) (D : va_G) (T : Nat → ClassId) (x vs es o t : Nat) (yv : Nat → Nat) (p : Nat) (hp : p < 8) (hy : ∀ k, yv k < 262144) : Hm l yX7_whole cX7_whole 2 (some FieldType.int) 4 0 0 D T [.ref x, .int (nI p)] [(x, .inr (3, [.ref vs, .ref es, .ref o, .ref t])), (vs, .inl (T 0, 8, .inl (fun k => nI (yv k)))), (es, .inl (T 1, 8, .inr (.inl (fun k => edge (yv k)))))] (some (.int (fI (yv p) / 1024))) (fun _ : Unit => [(x, .inr (3, [.ref vs, .ref es, .ref o, .ref t])), (vs, .inl (T 0, 8, .inl (fun k => nI (yv k)))), (es, .inl (T 1, 8, .inr (.inl (fun k => edge (yv k)))))]) := by
  refine Hm.of (by decide) (Nat.le_of_ble_eq_true rfl) ?_
  intro zp ze s zm args below zmeth zc hx hb hr hml hown hin hts hlocks A hA hP hK hD hS ls hl
  have hl : lv_has ls 2 [(0, .ref x), (1, .int (nI p))] := hl
  refine lv_iload_n hx hb dX7_whole_0 rfl (lv_at hl 1 rfl) ?_
  refine zp_callv hx hb hml hown hts k_X7_31 (c_needPlace l (nI p) (is_ok hp)) ⟨by decide, by decide⟩ rfl hl.1 [] rfl (Nat.le_of_ble_eq_true rfl) dX7_whole_1 ⟨Nat.le_of_ble_eq_true rfl, Nat.le_of_ble_eq_true rfl⟩ ?_
  refine lv_aload_n hx hb dX7_whole_4 rfl (lv_at hl 0 rfl) ?_
  refine va_get (D := D) (ci := 3) (v := .ref es) (C := RX7) (T := TX7) (N := 4) hx hb hts i_X7 hown hK hP 0 rfl rfl 1 (by decide) (hts _ u91) (fun _ h9 => h9) rfl dX7_whole_5 ?_
  refine lv_iload_n hx hb dX7_whole_8 rfl (lv_at hl 1 rfl) ?_
  refine za_lald hx hb hK hP 2 rfl p (rfl) (by omega) (by decide) dX7_whole_9 ?_
  refine zp_call hx hb hml hown hts k_X7_69 (c_X2_wholeOf l (edge (yv p))) ⟨by decide, by decide⟩ rfl hl.1 [] rfl (Nat.le_of_ble_eq_true rfl) dX7_whole_10 ⟨by decide, by decide⟩ ?_
  refine zf_i (x' := fI (yv p) / 1024) (show m_X2_fineOf (edge (yv p)) / 1024 = _ by rw [ed_fine (hy p)]) ?_
  exact zh_iret () hx hb hr hlocks dX7_whole_13 hP hD hS (rfl) (rfl)
set_option maxRecDepth 20000 in
theorem c_X7_coarse_ok (l : Launch) (D : va_G) (T : Nat → ClassId) (x vs es o t : Nat) (yv : Nat → Nat) (p : Nat) (hp : p < 8) (hy : ∀ k, yv k < 262144) : Hm l yX7_coarse cX7_coarse 2 (some FieldType.double) 3 0 0 D T [.ref x, .int (nI p)] [(x, .inr (3, [.ref vs, .ref es, .ref o, .ref t])), (vs, .inl (T 0, 8, .inl (fun k => nI (yv k)))), (es, .inl (T 1, 8, .inr (.inl (fun k => edge (yv k)))))] (some (.double (FP.ddiv (FP.i2d (fI (yv p))) 4652218415073722368))) (fun _ : Unit => [(x, .inr (3, [.ref vs, .ref es, .ref o, .ref t])), (vs, .inl (T 0, 8, .inl (fun k => nI (yv k)))), (es, .inl (T 1, 8, .inr (.inl (fun k => edge (yv k)))))]) := by
  refine Hm.of (by decide) (Nat.le_of_ble_eq_true rfl) ?_
  intro zp ze s zm args below zmeth zc hx hb hr hml hown hin hts hlocks A hA hP hK hD hS ls hl
  have hl : lv_has ls 2 [(0, .ref x), (1, .int (nI p))] := hl
  refine lv_iload_n hx hb dX7_coarse_0 rfl (lv_at hl 1 rfl) ?_
  refine zp_callv hx hb hml hown hts k_X7_31 (c_needPlace l (nI p) (is_ok hp)) ⟨by decide, by decide⟩ rfl hl.1 [] rfl (Nat.le_of_ble_eq_true rfl) dX7_coarse_1 ⟨Nat.le_of_ble_eq_true rfl, Nat.le_of_ble_eq_true rfl⟩ ?_
  refine lv_aload_n hx hb dX7_coarse_4 rfl (lv_at hl 0 rfl) ?_
  refine va_get (D := D) (ci := 3) (v := .ref es) (C := RX7) (T := TX7) (N := 4) hx hb hts i_X7 hown hK hP 0 rfl rfl 1 (by decide) (hts _ u91) (fun _ h9 => h9) rfl dX7_coarse_5 ?_
  refine lv_iload_n hx hb dX7_coarse_8 rfl (lv_at hl 1 rfl) ?_
  refine za_lald hx hb hK hP 2 rfl p (rfl) (by omega) (by decide) dX7_coarse_9 ?_
  refine zp_call hx hb hml hown hts k_X7_56 (c_X2_fineOf l (edge (yv p))) ⟨by decide, by decide⟩ rfl hl.1 [] rfl (Nat.le_of_ble_eq_true rfl) dX7_coarse_10 ⟨by decide, by decide⟩ ?_
  refine zf_i (x' := fI (yv p)) (ed_fine (hy p)) ?_
  refine lv_i2d hx hb dX7_coarse_13 ?_
  refine lv_ldc2d hx hb hown (hts _ u495) dX7_coarse_14 ?_
  refine lv_ddiv hx hb dX7_coarse_17 (nn_coarse _) ?_
  exact zh_dret () hx hb hr hlocks dX7_coarse_18 hP hD hS (rfl) (rfl)
set_option maxRecDepth 20000 in
theorem c_X7_isExact_ok (l : Launch) (D : va_G) (T : Nat → ClassId) (x vs es o t : Nat) (yv : Nat → Nat) (p : Nat) (hp : p < 8) (hy : ∀ k, yv k < 262144) : Hm l yX7_isExact cX7_isExact 2 (some FieldType.boolean) 3 0 0 D T [.ref x, .int (nI p)] [(x, .inr (3, [.ref vs, .ref es, .ref o, .ref t])), (vs, .inl (T 0, 8, .inl (fun k => nI (yv k)))), (es, .inl (T 1, 8, .inr (.inl (fun k => edge (yv k)))))] (some (.int (bI (exB (eig (yv p)))))) (fun _ : Unit => [(x, .inr (3, [.ref vs, .ref es, .ref o, .ref t])), (vs, .inl (T 0, 8, .inl (fun k => nI (yv k)))), (es, .inl (T 1, 8, .inr (.inl (fun k => edge (yv k)))))]) := by
  refine Hm.of (by decide) (Nat.le_of_ble_eq_true rfl) ?_
  intro zp ze s zm args below zmeth zc hx hb hr hml hown hin hts hlocks A hA hP hK hD hS ls hl
  have hl : lv_has ls 2 [(0, .ref x), (1, .int (nI p))] := hl
  refine lv_iload_n hx hb dX7_isExact_0 rfl (lv_at hl 1 rfl) ?_
  refine zp_callv hx hb hml hown hts k_X7_31 (c_needPlace l (nI p) (is_ok hp)) ⟨by decide, by decide⟩ rfl hl.1 [] rfl (Nat.le_of_ble_eq_true rfl) dX7_isExact_1 ⟨Nat.le_of_ble_eq_true rfl, Nat.le_of_ble_eq_true rfl⟩ ?_
  refine lv_aload_n hx hb dX7_isExact_4 rfl (lv_at hl 0 rfl) ?_
  refine va_get (D := D) (ci := 3) (v := .ref es) (C := RX7) (T := TX7) (N := 4) hx hb hts i_X7 hown hK hP 0 rfl rfl 1 (by decide) (hts _ u91) (fun _ h9 => h9) rfl dX7_isExact_5 ?_
  refine lv_iload_n hx hb dX7_isExact_8 rfl (lv_at hl 1 rfl) ?_
  refine za_lald hx hb hK hP 2 rfl p (rfl) (by omega) (by decide) dX7_isExact_9 ?_
  refine zp_call hx hb hml hown hts k_X7_74 (c_X2_isHalves l (edge (yv p))) ⟨by decide, by decide⟩ rfl hl.1 [] rfl (Nat.le_of_ble_eq_true rfl) dX7_isExact_10 ⟨by decide, by decide⟩ ?_
  refine zf_z (x' := exB (eig (yv p))) (congrArg bI (ed_half (hy p))) ?_
  exact zh_zret () hx hb hr hlocks dX7_isExact_13 hP hD hS (rfl) (rfl)
set_option maxRecDepth 20000 in
theorem t_X7_volume_no (l : Launch) (hlf : l.stackTraces = false) (D : va_G) (T : Nat → ClassId) (x vs es o t : Nat) (yv : Nat → Nat) (x0 : Int32) (hx0 : m_X8_is x0 = false) : Tm l yX7_volume cX7_volume 2 (some FieldType.int) 7 D T [.ref x, .int x0] [(x, .inr (3, [.ref vs, .ref es, .ref o, .ref t])), (vs, .inl (T 0, 8, .inl (fun k => nI (yv k)))), (es, .inl (T 1, 8, .inr (.inl (fun k => edge (yv k)))))] "java/lang/IndexOutOfBoundsException" := by
  refine Tm.of (by decide) (Nat.le_of_ble_eq_true rfl) ?_
  intro zp ze s zm args below zmeth zc hx hb hr hml hown hts hlocks hout A hA hP hK hD hS hZ ls hl
  have hl : lv_has ls 2 [(0, .ref x), (1, .int x0)] := hl
  refine lv_iload_n hx hb dX7_volume_0 rfl (lv_at hl 1 rfl) ?_
  refine zt_s (T := T) hx hb hml hown hts k_X7_31 (t_needPlace l hlf D T x0 hx0) ⟨by decide, by decide⟩ rfl hl.1 [] rfl (Nat.le_of_ble_eq_true rfl) dX7_volume_1 ⟨Nat.le_of_ble_eq_true rfl, Nat.le_of_ble_eq_true rfl⟩ hK hP hD hS hA hZ [] [0, 1, 2] (wr := [(x, .inr (3, [.ref vs, .ref es, .ref o, .ref t])), (vs, .inl (T 0, 8, .inl (fun k => nI (yv k)))), (es, .inl (T 1, 8, .inr (.inl (fun k => edge (yv k)))))]) rfl rfl (by decide) (by decide) (by decide) [0, 1, 2] (by decide) rfl (fun ce q9 H locs hP hD hS hce hcv hcl => ?_)
  exact zt_out hlocks hout hP hD hS hce hcv hcl
set_option maxRecDepth 20000 in
theorem t_X7_kind_no (l : Launch) (hlf : l.stackTraces = false) (D : va_G) (T : Nat → ClassId) (x vs es o t : Nat) (yv : Nat → Nat) (x0 : Int32) (hx0 : m_X8_is x0 = false) : Tm l yX7_kind cX7_kind 2 (some FieldType.int) 7 D T [.ref x, .int x0] [(x, .inr (3, [.ref vs, .ref es, .ref o, .ref t])), (vs, .inl (T 0, 8, .inl (fun k => nI (yv k)))), (es, .inl (T 1, 8, .inr (.inl (fun k => edge (yv k)))))] "java/lang/IndexOutOfBoundsException" := by
  refine Tm.of (by decide) (Nat.le_of_ble_eq_true rfl) ?_
  intro zp ze s zm args below zmeth zc hx hb hr hml hown hts hlocks hout A hA hP hK hD hS hZ ls hl
  have hl : lv_has ls 2 [(0, .ref x), (1, .int x0)] := hl
  refine lv_iload_n hx hb dX7_kind_0 rfl (lv_at hl 1 rfl) ?_
  refine zt_s (T := T) hx hb hml hown hts k_X7_31 (t_needPlace l hlf D T x0 hx0) ⟨by decide, by decide⟩ rfl hl.1 [] rfl (Nat.le_of_ble_eq_true rfl) dX7_kind_1 ⟨Nat.le_of_ble_eq_true rfl, Nat.le_of_ble_eq_true rfl⟩ hK hP hD hS hA hZ [] [0, 1, 2] (wr := [(x, .inr (3, [.ref vs, .ref es, .ref o, .ref t])), (vs, .inl (T 0, 8, .inl (fun k => nI (yv k)))), (es, .inl (T 1, 8, .inr (.inl (fun k => edge (yv k)))))]) rfl rfl (by decide) (by decide) (by decide) [0, 1, 2] (by decide) rfl (fun ce q9 H locs hP hD hS hce hcv hcl => ?_)
  exact zt_out hlocks hout hP hD hS hce hcv hcl
set_option maxRecDepth 20000 in
theorem t_X7_fine_no (l : Launch) (hlf : l.stackTraces = false) (D : va_G) (T : Nat → ClassId) (x vs es o t : Nat) (yv : Nat → Nat) (x0 : Int32) (hx0 : m_X8_is x0 = false) : Tm l yX7_fine cX7_fine 2 (some FieldType.int) 7 D T [.ref x, .int x0] [(x, .inr (3, [.ref vs, .ref es, .ref o, .ref t])), (vs, .inl (T 0, 8, .inl (fun k => nI (yv k)))), (es, .inl (T 1, 8, .inr (.inl (fun k => edge (yv k)))))] "java/lang/IndexOutOfBoundsException" := by
  refine Tm.of (by decide) (Nat.le_of_ble_eq_true rfl) ?_
  intro zp ze s zm args below zmeth zc hx hb hr hml hown hts hlocks hout A hA hP hK hD hS hZ ls hl
  have hl : lv_has ls 2 [(0, .ref x), (1, .int x0)] := hl
  refine lv_iload_n hx hb dX7_fine_0 rfl (lv_at hl 1 rfl) ?_
  refine zt_s (T := T) hx hb hml hown hts k_X7_31 (t_needPlace l hlf D T x0 hx0) ⟨by decide, by decide⟩ rfl hl.1 [] rfl (Nat.le_of_ble_eq_true rfl) dX7_fine_1 ⟨Nat.le_of_ble_eq_true rfl, Nat.le_of_ble_eq_true rfl⟩ hK hP hD hS hA hZ [] [0, 1, 2] (wr := [(x, .inr (3, [.ref vs, .ref es, .ref o, .ref t])), (vs, .inl (T 0, 8, .inl (fun k => nI (yv k)))), (es, .inl (T 1, 8, .inr (.inl (fun k => edge (yv k)))))]) rfl rfl (by decide) (by decide) (by decide) [0, 1, 2] (by decide) rfl (fun ce q9 H locs hP hD hS hce hcv hcl => ?_)
  exact zt_out hlocks hout hP hD hS hce hcv hcl
set_option maxRecDepth 20000 in
theorem t_X7_whole_no (l : Launch) (hlf : l.stackTraces = false) (D : va_G) (T : Nat → ClassId) (x vs es o t : Nat) (yv : Nat → Nat) (x0 : Int32) (hx0 : m_X8_is x0 = false) : Tm l yX7_whole cX7_whole 2 (some FieldType.int) 7 D T [.ref x, .int x0] [(x, .inr (3, [.ref vs, .ref es, .ref o, .ref t])), (vs, .inl (T 0, 8, .inl (fun k => nI (yv k)))), (es, .inl (T 1, 8, .inr (.inl (fun k => edge (yv k)))))] "java/lang/IndexOutOfBoundsException" := by
  refine Tm.of (by decide) (Nat.le_of_ble_eq_true rfl) ?_
  intro zp ze s zm args below zmeth zc hx hb hr hml hown hts hlocks hout A hA hP hK hD hS hZ ls hl
  have hl : lv_has ls 2 [(0, .ref x), (1, .int x0)] := hl
  refine lv_iload_n hx hb dX7_whole_0 rfl (lv_at hl 1 rfl) ?_
  refine zt_s (T := T) hx hb hml hown hts k_X7_31 (t_needPlace l hlf D T x0 hx0) ⟨by decide, by decide⟩ rfl hl.1 [] rfl (Nat.le_of_ble_eq_true rfl) dX7_whole_1 ⟨Nat.le_of_ble_eq_true rfl, Nat.le_of_ble_eq_true rfl⟩ hK hP hD hS hA hZ [] [0, 1, 2] (wr := [(x, .inr (3, [.ref vs, .ref es, .ref o, .ref t])), (vs, .inl (T 0, 8, .inl (fun k => nI (yv k)))), (es, .inl (T 1, 8, .inr (.inl (fun k => edge (yv k)))))]) rfl rfl (by decide) (by decide) (by decide) [0, 1, 2] (by decide) rfl (fun ce q9 H locs hP hD hS hce hcv hcl => ?_)
  exact zt_out hlocks hout hP hD hS hce hcv hcl
set_option maxRecDepth 20000 in
theorem t_X7_coarse_no (l : Launch) (hlf : l.stackTraces = false) (D : va_G) (T : Nat → ClassId) (x vs es o t : Nat) (yv : Nat → Nat) (x0 : Int32) (hx0 : m_X8_is x0 = false) : Tm l yX7_coarse cX7_coarse 2 (some FieldType.double) 7 D T [.ref x, .int x0] [(x, .inr (3, [.ref vs, .ref es, .ref o, .ref t])), (vs, .inl (T 0, 8, .inl (fun k => nI (yv k)))), (es, .inl (T 1, 8, .inr (.inl (fun k => edge (yv k)))))] "java/lang/IndexOutOfBoundsException" := by
  refine Tm.of (by decide) (Nat.le_of_ble_eq_true rfl) ?_
  intro zp ze s zm args below zmeth zc hx hb hr hml hown hts hlocks hout A hA hP hK hD hS hZ ls hl
  have hl : lv_has ls 2 [(0, .ref x), (1, .int x0)] := hl
  refine lv_iload_n hx hb dX7_coarse_0 rfl (lv_at hl 1 rfl) ?_
  refine zt_s (T := T) hx hb hml hown hts k_X7_31 (t_needPlace l hlf D T x0 hx0) ⟨by decide, by decide⟩ rfl hl.1 [] rfl (Nat.le_of_ble_eq_true rfl) dX7_coarse_1 ⟨Nat.le_of_ble_eq_true rfl, Nat.le_of_ble_eq_true rfl⟩ hK hP hD hS hA hZ [] [0, 1, 2] (wr := [(x, .inr (3, [.ref vs, .ref es, .ref o, .ref t])), (vs, .inl (T 0, 8, .inl (fun k => nI (yv k)))), (es, .inl (T 1, 8, .inr (.inl (fun k => edge (yv k)))))]) rfl rfl (by decide) (by decide) (by decide) [0, 1, 2] (by decide) rfl (fun ce q9 H locs hP hD hS hce hcv hcl => ?_)
  exact zt_out hlocks hout hP hD hS hce hcv hcl
set_option maxRecDepth 20000 in
theorem t_X7_isExact_no (l : Launch) (hlf : l.stackTraces = false) (D : va_G) (T : Nat → ClassId) (x vs es o t : Nat) (yv : Nat → Nat) (x0 : Int32) (hx0 : m_X8_is x0 = false) : Tm l yX7_isExact cX7_isExact 2 (some FieldType.boolean) 7 D T [.ref x, .int x0] [(x, .inr (3, [.ref vs, .ref es, .ref o, .ref t])), (vs, .inl (T 0, 8, .inl (fun k => nI (yv k)))), (es, .inl (T 1, 8, .inr (.inl (fun k => edge (yv k)))))] "java/lang/IndexOutOfBoundsException" := by
  refine Tm.of (by decide) (Nat.le_of_ble_eq_true rfl) ?_
  intro zp ze s zm args below zmeth zc hx hb hr hml hown hts hlocks hout A hA hP hK hD hS hZ ls hl
  have hl : lv_has ls 2 [(0, .ref x), (1, .int x0)] := hl
  refine lv_iload_n hx hb dX7_isExact_0 rfl (lv_at hl 1 rfl) ?_
  refine zt_s (T := T) hx hb hml hown hts k_X7_31 (t_needPlace l hlf D T x0 hx0) ⟨by decide, by decide⟩ rfl hl.1 [] rfl (Nat.le_of_ble_eq_true rfl) dX7_isExact_1 ⟨Nat.le_of_ble_eq_true rfl, Nat.le_of_ble_eq_true rfl⟩ hK hP hD hS hA hZ [] [0, 1, 2] (wr := [(x, .inr (3, [.ref vs, .ref es, .ref o, .ref t])), (vs, .inl (T 0, 8, .inl (fun k => nI (yv k)))), (es, .inl (T 1, 8, .inr (.inl (fun k => edge (yv k)))))]) rfl rfl (by decide) (by decide) (by decide) [0, 1, 2] (by decide) rfl (fun ce q9 H locs hP hD hS hce hcv hcl => ?_)
  exact zt_out hlocks hout hP hD hS hce hcv hcl
set_option maxRecDepth 20000 in
theorem t_X7_bits_no (l : Launch) (hlf : l.stackTraces = false) (D : va_G) (T : Nat → ClassId) (x vs es o t : Nat) (yv : Nat → Nat) (x0 : Int32) (hx0 : m_X8_is x0 = false) : Tm l yX7_bits cX7_bits 2 (some FieldType.long) 7 D T [.ref x, .int x0] [(x, .inr (3, [.ref vs, .ref es, .ref o, .ref t])), (vs, .inl (T 0, 8, .inl (fun k => nI (yv k)))), (es, .inl (T 1, 8, .inr (.inl (fun k => edge (yv k)))))] "java/lang/IndexOutOfBoundsException" := by
  refine Tm.of (by decide) (Nat.le_of_ble_eq_true rfl) ?_
  intro zp ze s zm args below zmeth zc hx hb hr hml hown hts hlocks hout A hA hP hK hD hS hZ ls hl
  have hl : lv_has ls 2 [(0, .ref x), (1, .int x0)] := hl
  refine lv_iload_n hx hb dX7_bits_0 rfl (lv_at hl 1 rfl) ?_
  refine zt_s (T := T) hx hb hml hown hts k_X7_31 (t_needPlace l hlf D T x0 hx0) ⟨by decide, by decide⟩ rfl hl.1 [] rfl (Nat.le_of_ble_eq_true rfl) dX7_bits_1 ⟨Nat.le_of_ble_eq_true rfl, Nat.le_of_ble_eq_true rfl⟩ hK hP hD hS hA hZ [] [0, 1, 2] (wr := [(x, .inr (3, [.ref vs, .ref es, .ref o, .ref t])), (vs, .inl (T 0, 8, .inl (fun k => nI (yv k)))), (es, .inl (T 1, 8, .inr (.inl (fun k => edge (yv k)))))]) rfl rfl (by decide) (by decide) (by decide) [0, 1, 2] (by decide) rfl (fun ce q9 H locs hP hD hS hce hcv hcl => ?_)
  exact zt_out hlocks hout hP hD hS hce hcv hcl
set_option maxRecDepth 20000 in
theorem t_X7_grow_no (l : Launch) (hlf : l.stackTraces = false) (D : va_G) (T : Nat → ClassId) (x vs es o t : Nat) (yv : Nat → Nat) (x0 : Int32) (hx0 : m_X8_is x0 = false) (y0 : Int32) : Tm l yX7_grow cX7_grow 6 (some FieldType.int) 7 D T [.ref x, .int x0, .int y0] [(x, .inr (3, [.ref vs, .ref es, .ref o, .ref t])), (vs, .inl (T 0, 8, .inl (fun k => nI (yv k)))), (es, .inl (T 1, 8, .inr (.inl (fun k => edge (yv k)))))] "java/lang/IndexOutOfBoundsException" := by
  refine Tm.of (by decide) (Nat.le_of_ble_eq_true rfl) ?_
  intro zp ze s zm args below zmeth zc hx hb hr hml hown hts hlocks hout A hA hP hK hD hS hZ ls hl
  have hl : lv_has ls 6 [(0, .ref x), (1, .int x0), (2, .int y0)] := hl
  refine lv_iload_n hx hb dX7_grow_0 rfl (lv_at hl 1 rfl) ?_
  refine zt_s (T := T) hx hb hml hown hts k_X7_31 (t_needPlace l hlf D T x0 hx0) ⟨by decide, by decide⟩ rfl hl.1 [] rfl (Nat.le_of_ble_eq_true rfl) dX7_grow_1 ⟨Nat.le_of_ble_eq_true rfl, Nat.le_of_ble_eq_true rfl⟩ hK hP hD hS hA hZ [] [0, 1, 2] (wr := [(x, .inr (3, [.ref vs, .ref es, .ref o, .ref t])), (vs, .inl (T 0, 8, .inl (fun k => nI (yv k)))), (es, .inl (T 1, 8, .inr (.inl (fun k => edge (yv k)))))]) rfl rfl (by decide) (by decide) (by decide) [0, 1, 2] (by decide) rfl (fun ce q9 H locs hP hD hS hce hcv hcl => ?_)
  exact zt_out hlocks hout hP hD hS hce hcv hcl
set_option maxRecDepth 20000 in
theorem t_X7_put_no (l : Launch) (hlf : l.stackTraces = false) (D : va_G) (T : Nat → ClassId) (x vs es o t : Nat) (yv : Nat → Nat) (x0 : Int32) (hx0 : m_X8_is x0 = false) (y0 : Int32) (y1 : Bool) (y2 : Bool) : Tm l yX7_put cX7_put 6 (some FieldType.int) 7 D T [.ref x, .int x0, .int y0, .int (bI y1), .int (bI y2)] [(x, .inr (3, [.ref vs, .ref es, .ref o, .ref t])), (vs, .inl (T 0, 8, .inl (fun k => nI (yv k)))), (es, .inl (T 1, 8, .inr (.inl (fun k => edge (yv k)))))] "java/lang/IndexOutOfBoundsException" := by
  refine Tm.of (by decide) (Nat.le_of_ble_eq_true rfl) ?_
  intro zp ze s zm args below zmeth zc hx hb hr hml hown hts hlocks hout A hA hP hK hD hS hZ ls hl
  have hl : lv_has ls 6 [(0, .ref x), (1, .int x0), (2, .int y0), (3, .int (bI y1)), (4, .int (bI y2))] := hl
  refine lv_iload_n hx hb dX7_put_0 rfl (lv_at hl 1 rfl) ?_
  refine zt_s (T := T) hx hb hml hown hts k_X7_31 (t_needPlace l hlf D T x0 hx0) ⟨by decide, by decide⟩ rfl hl.1 [] rfl (Nat.le_of_ble_eq_true rfl) dX7_put_1 ⟨Nat.le_of_ble_eq_true rfl, Nat.le_of_ble_eq_true rfl⟩ hK hP hD hS hA hZ [] [0, 1, 2] (wr := [(x, .inr (3, [.ref vs, .ref es, .ref o, .ref t])), (vs, .inl (T 0, 8, .inl (fun k => nI (yv k)))), (es, .inl (T 1, 8, .inr (.inl (fun k => edge (yv k)))))]) rfl rfl (by decide) (by decide) (by decide) [0, 1, 2] (by decide) rfl (fun ce q9 H locs hP hD hS hce hcv hcl => ?_)
  exact zt_out hlocks hout hP hD hS hce hcv hcl
set_option maxRecDepth 20000 in
theorem c_X7_bits_ok (l : Launch) (D : va_G) (T : Nat → ClassId) (x vs es o t : Nat) (yv : Nat → Nat) (p : Nat) (hp : p < 8) (hy : ∀ k, yv k < 262144) (he : exB (eig (yv p)) = true) : Hm l yX7_bits cX7_bits 2 (some FieldType.long) 3 0 0 D T [.ref x, .int (nI p)] [(x, .inr (3, [.ref vs, .ref es, .ref o, .ref t])), (vs, .inl (T 0, 8, .inl (fun k => nI (yv k)))), (es, .inl (T 1, 8, .inr (.inl (fun k => edge (yv k)))))] (some (.long (edge (yv p)))) (fun _ : Unit => [(x, .inr (3, [.ref vs, .ref es, .ref o, .ref t])), (vs, .inl (T 0, 8, .inl (fun k => nI (yv k)))), (es, .inl (T 1, 8, .inr (.inl (fun k => edge (yv k)))))]) := by
  refine Hm.of (by decide) (Nat.le_of_ble_eq_true rfl) ?_
  intro zp ze s zm args below zmeth zc hx hb hr hml hown hin hts hlocks A hA hP hK hD hS ls hl
  have hl : lv_has ls 2 [(0, .ref x), (1, .int (nI p))] := hl
  refine lv_iload_n hx hb dX7_bits_0 rfl (lv_at hl 1 rfl) ?_
  refine zp_callv hx hb hml hown hts k_X7_31 (c_needPlace l (nI p) (is_ok hp)) ⟨by decide, by decide⟩ rfl hl.1 [] rfl (Nat.le_of_ble_eq_true rfl) dX7_bits_1 ⟨Nat.le_of_ble_eq_true rfl, Nat.le_of_ble_eq_true rfl⟩ ?_
  refine lv_aload_n hx hb dX7_bits_4 rfl (lv_at hl 0 rfl) ?_
  refine va_get (D := D) (ci := 3) (v := .ref es) (C := RX7) (T := TX7) (N := 4) hx hb hts i_X7 hown hK hP 0 rfl rfl 1 (by decide) (hts _ u91) (fun _ h9 => h9) rfl dX7_bits_5 ?_
  refine lv_iload_n hx hb dX7_bits_8 rfl (lv_at hl 1 rfl) ?_
  refine za_lald hx hb hK hP 2 rfl p (rfl) (by omega) (by decide) dX7_bits_9 ?_
  refine zp_call hx hb hml hown hts k_X7_74 (c_X2_isHalves l (edge (yv p))) ⟨by decide, by decide⟩ rfl hl.1 [] rfl (Nat.le_of_ble_eq_true rfl) dX7_bits_10 ⟨by decide, by decide⟩ ?_
  refine zf_z (x' := true) (congrArg bI ((ed_half (hy p)).trans he)) ?_
  refine zb_ne (tgt := 26) hx hb dX7_bits_13 (by decide) (fun h1 => ?_) (fun h1 => ?_)
  · refine lv_aload_n hx hb dX7_bits_26 rfl (lv_at hl 0 rfl) ?_
    refine va_get (D := D) (ci := 3) (v := .ref es) (C := RX7) (T := TX7) (N := 4) hx hb hts i_X7 hown hK hP 0 rfl rfl 1 (by decide) (hts _ u91) (fun _ h9 => h9) rfl dX7_bits_27 ?_
    refine lv_iload_n hx hb dX7_bits_30 rfl (lv_at hl 1 rfl) ?_
    refine za_lald hx hb hK hP 2 rfl p (rfl) (by omega) (by decide) dX7_bits_31 ?_
    exact zh_lret () hx hb hr hlocks dX7_bits_32 hP hD hS (rfl) (rfl)
  · exact absurd h1 (by decide)
set_option maxRecDepth 20000 in
theorem t_X7_bits_not (l : Launch) (hlf : l.stackTraces = false) (D : va_G) (T : Nat → ClassId) (x vs es o t : Nat) (yv : Nat → Nat) (p : Nat) (hp : p < 8) (hy : ∀ k, yv k < 262144) (he : exB (eig (yv p)) = false) : Tm l yX7_bits cX7_bits 2 (some FieldType.long) 7 D T [.ref x, .int (nI p)] [(x, .inr (3, [.ref vs, .ref es, .ref o, .ref t])), (vs, .inl (T 0, 8, .inl (fun k => nI (yv k)))), (es, .inl (T 1, 8, .inr (.inl (fun k => edge (yv k)))))] "java/lang/ArithmeticException" := by
  refine Tm.of (by decide) (Nat.le_of_ble_eq_true rfl) ?_
  intro zp ze s zm args below zmeth zc hx hb hr hml hown hts hlocks hout A hA hP hK hD hS hZ ls hl
  have hl : lv_has ls 2 [(0, .ref x), (1, .int (nI p))] := hl
  refine lv_iload_n hx hb dX7_bits_0 rfl (lv_at hl 1 rfl) ?_
  refine zp_callv hx hb hml hown hts k_X7_31 (c_needPlace l (nI p) (is_ok hp)) ⟨by decide, by decide⟩ rfl hl.1 [] rfl (Nat.le_of_ble_eq_true rfl) dX7_bits_1 ⟨Nat.le_of_ble_eq_true rfl, Nat.le_of_ble_eq_true rfl⟩ ?_
  refine lv_aload_n hx hb dX7_bits_4 rfl (lv_at hl 0 rfl) ?_
  refine va_get (D := D) (ci := 3) (v := .ref es) (C := RX7) (T := TX7) (N := 4) hx hb hts i_X7 hown hK hP 0 rfl rfl 1 (by decide) (hts _ u91) (fun _ h9 => h9) rfl dX7_bits_5 ?_
  refine lv_iload_n hx hb dX7_bits_8 rfl (lv_at hl 1 rfl) ?_
  refine za_lald hx hb hK hP 2 rfl p (rfl) (by omega) (by decide) dX7_bits_9 ?_
  refine zp_call hx hb hml hown hts k_X7_74 (c_X2_isHalves l (edge (yv p))) ⟨by decide, by decide⟩ rfl hl.1 [] rfl (Nat.le_of_ble_eq_true rfl) dX7_bits_10 ⟨by decide, by decide⟩ ?_
  refine zf_z (x' := false) (congrArg bI ((ed_half (hy p)).trans he)) ?_
  refine zb_ne (tgt := 26) hx hb dX7_bits_13 (by decide) (fun h1 => ?_) (fun h1 => ?_)
  · exact absurd h1 (by decide)
  · exact zt_throw hx hb hlf hml hown hts hlocks hout (by decide +kernel) u525 u32 (List.mem_of_getElem? (i := 2) rfl) xg_81 xn_81 xo_81 hP hD hS hZ hl.1 (by decide) (Nat.le_of_ble_eq_true rfl) dX7_bits_16 dX7_bits_19 dX7_bits_20 dX7_bits_22 dX7_bits_25
set_option maxRecDepth 20000 in
theorem c_X7_order_ok (l : Launch) (D : va_G) (T : Nat → ClassId) (x vs es o t : Nat) (yv : Nat → Nat) (p : Nat) (hp : p < 8) (p2 : Nat) (hp2 : p2 < 8) (hy : ∀ k, yv k < 262144) : Hm l yX7_order cX7_order 3 (some FieldType.int) 3 0 0 D T [.ref x, .int (nI p), .int (nI p2)] [(x, .inr (3, [.ref vs, .ref es, .ref o, .ref t])), (vs, .inl (T 0, 8, .inl (fun k => nI (yv k)))), (es, .inl (T 1, 8, .inr (.inl (fun k => edge (yv k)))))] (some (.int (ordI (yv p) (yv p2)))) (fun _ : Unit => [(x, .inr (3, [.ref vs, .ref es, .ref o, .ref t])), (vs, .inl (T 0, 8, .inl (fun k => nI (yv k)))), (es, .inl (T 1, 8, .inr (.inl (fun k => edge (yv k)))))]) := by
  refine Hm.of (by decide) (Nat.le_of_ble_eq_true rfl) ?_
  intro zp ze s zm args below zmeth zc hx hb hr hml hown hin hts hlocks A hA hP hK hD hS ls hl
  have hl : lv_has ls 3 [(0, .ref x), (1, .int (nI p)), (2, .int (nI p2))] := hl
  refine lv_iload_n hx hb dX7_order_0 rfl (lv_at hl 1 rfl) ?_
  refine zp_callv hx hb hml hown hts k_X7_31 (c_needPlace l (nI p) (is_ok hp)) ⟨by decide, by decide⟩ rfl hl.1 [] rfl (Nat.le_of_ble_eq_true rfl) dX7_order_1 ⟨Nat.le_of_ble_eq_true rfl, Nat.le_of_ble_eq_true rfl⟩ ?_
  refine lv_iload_n hx hb dX7_order_4 rfl (lv_at hl 2 rfl) ?_
  refine zp_callv hx hb hml hown hts k_X7_31 (c_needPlace l (nI p2) (is_ok hp2)) ⟨by decide, by decide⟩ rfl hl.1 [] rfl (Nat.le_of_ble_eq_true rfl) dX7_order_5 ⟨Nat.le_of_ble_eq_true rfl, Nat.le_of_ble_eq_true rfl⟩ ?_
  refine lv_aload_n hx hb dX7_order_8 rfl (lv_at hl 0 rfl) ?_
  refine va_get (D := D) (ci := 3) (v := .ref es) (C := RX7) (T := TX7) (N := 4) hx hb hts i_X7 hown hK hP 0 rfl rfl 1 (by decide) (hts _ u91) (fun _ h9 => h9) rfl dX7_order_9 ?_
  refine lv_iload_n hx hb dX7_order_12 rfl (lv_at hl 1 rfl) ?_
  refine za_lald hx hb hK hP 2 rfl p (rfl) (by omega) (by decide) dX7_order_13 ?_
  refine lv_aload_n hx hb dX7_order_14 rfl (lv_at hl 0 rfl) ?_
  refine va_get (D := D) (ci := 3) (v := .ref es) (C := RX7) (T := TX7) (N := 4) hx hb hts i_X7 hown hK hP 0 rfl rfl 1 (by decide) (hts _ u91) (fun _ h9 => h9) rfl dX7_order_15 ?_
  refine lv_iload_n hx hb dX7_order_18 rfl (lv_at hl 2 rfl) ?_
  refine za_lald hx hb hK hP 2 rfl p2 (rfl) (by omega) (by decide) dX7_order_19 ?_
  refine zp_call hx hb hml hown hts k_X7_82 (c_X2_isLess l (edge (yv p)) (edge (yv p2))) ⟨by decide, by decide⟩ rfl hl.1 [] rfl (Nat.le_of_ble_eq_true rfl) dX7_order_20 ⟨by decide, by decide⟩ ?_
  refine zf_z (x' := ltB (yv p) (yv p2)) (congrArg bI (ed_less (hy p) (hy p2))) ?_
  refine zb_eq (tgt := 28) hx hb dX7_order_23 (by decide) (fun h1 => ?_) (fun h1 => ?_)
  · refine lv_aload_n hx hb dX7_order_28 rfl (lv_at hl 0 rfl) ?_
    refine va_get (D := D) (ci := 3) (v := .ref es) (C := RX7) (T := TX7) (N := 4) hx hb hts i_X7 hown hK hP 0 rfl rfl 1 (by decide) (hts _ u91) (fun _ h9 => h9) rfl dX7_order_29 ?_
    refine lv_iload_n hx hb dX7_order_32 rfl (lv_at hl 2 rfl) ?_
    refine za_lald hx hb hK hP 2 rfl p2 (rfl) (by omega) (by decide) dX7_order_33 ?_
    refine lv_aload_n hx hb dX7_order_34 rfl (lv_at hl 0 rfl) ?_
    refine va_get (D := D) (ci := 3) (v := .ref es) (C := RX7) (T := TX7) (N := 4) hx hb hts i_X7 hown hK hP 0 rfl rfl 1 (by decide) (hts _ u91) (fun _ h9 => h9) rfl dX7_order_35 ?_
    refine lv_iload_n hx hb dX7_order_38 rfl (lv_at hl 1 rfl) ?_
    refine za_lald hx hb hK hP 2 rfl p (rfl) (by omega) (by decide) dX7_order_39 ?_
    refine zp_call hx hb hml hown hts k_X7_82 (c_X2_isLess l (edge (yv p2)) (edge (yv p))) ⟨by decide, by decide⟩ rfl hl.1 [] rfl (Nat.le_of_ble_eq_true rfl) dX7_order_40 ⟨by decide, by decide⟩ ?_
    refine zf_z (x' := ltB (yv p2) (yv p)) (congrArg bI (ed_less (hy p2) (hy p))) ?_
    refine zb_eq (tgt := 50) hx hb dX7_order_43 (by decide) (fun h2 => ?_) (fun h2 => ?_)
    · refine lv_iconst (v := 0) hx hb dX7_order_50 (by decide) ?_
      exact zh_iret () hx hb hr hlocks dX7_order_51 hP hD hS (ord_0 (hy p) (hy p2) h1 h2) (rfl)
    · refine lv_iconst (v := 1) hx hb dX7_order_46 (by decide) ?_
      refine lv_goto (tgt := 51) hx hb dX7_order_47 (by decide) ?_
      exact zh_iret () hx hb hr hlocks dX7_order_51 hP hD hS (ord_1 (hy p) (hy p2) h2) (rfl)
  · refine lv_iconst (v := (-1)) hx hb dX7_order_26 (by decide) ?_
    exact zh_iret () hx hb hr hlocks dX7_order_27 hP hD hS (ord_m1 (hy p) (hy p2) h1) (rfl)
set_option maxRecDepth 20000 in
theorem c_X7_grow_ok (l : Launch) (D : va_G) (T : Nat → ClassId) (x vs es o t : Nat) (yv : Nat → Nat) (p : Nat) (hp : p < 8) (x0 : Int32) (c1 : Nat) (hc1 : c1 < 65536) (hg : lN (yv p / 4) + Int32.toInt64 x0 = lN c1) (hy : ∀ k, yv k < 262144) : Hm l yX7_grow cX7_grow 6 (some FieldType.int) 5 0 0 D T [.ref x, .int (nI p), .int x0] [(x, .inr (3, [.ref vs, .ref es, .ref o, .ref t])), (vs, .inl (T 0, 8, .inl (fun k => nI (yv k)))), (es, .inl (T 1, 8, .inr (.inl (fun k => edge (yv k)))))] (some (.int (nI (fN (eig (gN (yv p) c1))) - nI (fN (eig (yv p)))))) (fun _ : Unit => [(x, .inr (3, [.ref vs, .ref es, .ref o, .ref t])), (vs, .inl (T 0, 8, .inl (fun k => nI ((up yv p (gN (yv p) c1)) k)))), (es, .inl (T 1, 8, .inr (.inl (fun k => edge ((up yv p (gN (yv p) c1)) k)))))]) := by
  refine Hm.of (by decide) (Nat.le_of_ble_eq_true rfl) ?_
  intro zp ze s zm args below zmeth zc hx hb hr hml hown hin hts hlocks A hA hP hK hD hS ls hl
  have hl : lv_has ls 6 [(0, .ref x), (1, .int (nI p)), (2, .int x0)] := hl
  have h0 := hy p
  refine lv_iload_n hx hb dX7_grow_0 rfl (lv_at hl 1 rfl) ?_
  refine zp_callv hx hb hml hown hts k_X7_31 (c_needPlace l (nI p) (is_ok hp)) ⟨by decide, by decide⟩ rfl hl.1 [] rfl (Nat.le_of_ble_eq_true rfl) dX7_grow_1 ⟨Nat.le_of_ble_eq_true rfl, Nat.le_of_ble_eq_true rfl⟩ ?_
  refine lv_aload_n hx hb dX7_grow_4 rfl (lv_at hl 0 rfl) ?_
  refine va_get (D := D) (ci := 3) (v := .ref vs) (C := RX7) (T := TX7) (N := 4) hx hb hts i_X7 hown hK hP 0 rfl rfl 0 (by decide) (hts _ u90) (fun _ h9 => h9) rfl dX7_grow_5 ?_
  refine lv_iload_n hx hb dX7_grow_8 rfl (lv_at hl 1 rfl) ?_
  refine za_iald hx hb hK hP 1 rfl p (rfl) (by omega) (by decide) dX7_grow_9 ?_
  refine zp_call hx hb hml hown hts k_X7_86 (c_X5_countOf l (nI (yv p))) ⟨by decide, by decide⟩ rfl hl.1 [] rfl (Nat.le_of_ble_eq_true rfl) dX7_grow_10 ⟨by decide, by decide⟩ ?_
  refine zf_i (x' := nI (yv p / 4)) (mv_count (hy p)) ?_
  refine lv_i2l hx hb dX7_grow_13 rfl ?_
  refine zf_l (x' := lN (yv p / 4)) (nI_l (by omega)) ?_
  refine lv_iload_n hx hb dX7_grow_14 rfl (lv_at hl 2 rfl) ?_
  refine lv_i2l hx hb dX7_grow_15 rfl ?_
  refine lv_ladd hx hb dX7_grow_16 ?_
  refine zf_l (x' := lN c1) (hg) ?_
  refine lv_lstore_n (lv' := [(3, .long (lN c1)), (0, .ref x), (1, .int (nI p)), (2, .int x0)]) hx hb dX7_grow_17 rfl hl (by decide) rfl (fun ls hl => ?_)
  refine lv_lload_n hx hb dX7_grow_18 rfl (lv_at hl 0 rfl) ?_
  refine zp_call hx hb hml hown hts k_X7_35 (c_X5_isCount l (lN c1)) ⟨by decide, by decide⟩ rfl hl.1 [] rfl (Nat.le_of_ble_eq_true rfl) dX7_grow_19 ⟨by decide, by decide⟩ ?_
  refine zf_z (x' := true) (congrArg bI ((mv_isCount (by omega)).trans (decide_eq_true (by omega)))) ?_
  refine zb_ne (tgt := 35) hx hb dX7_grow_22 (by decide) (fun h1 => ?_) (fun h1 => ?_)
  · refine lv_aload_n hx hb dX7_grow_35 rfl (lv_at hl 1 rfl) ?_
    refine va_get (D := D) (ci := 3) (v := .ref es) (C := RX7) (T := TX7) (N := 4) hx hb hts i_X7 hown hK hP 0 rfl rfl 1 (by decide) (hts _ u91) (fun _ h9 => h9) rfl dX7_grow_36 ?_
    refine lv_iload_n hx hb dX7_grow_39 rfl (lv_at hl 2 rfl) ?_
    refine za_lald hx hb hK hP 2 rfl p (rfl) (by omega) (by decide) dX7_grow_40 ?_
    refine zp_call hx hb hml hown hts k_X7_91 (c_X2_withoutSign l (edge (yv p))) ⟨by decide, by decide⟩ rfl hl.1 [] rfl (Nat.le_of_ble_eq_true rfl) dX7_grow_41 ⟨by decide, by decide⟩ ?_
    refine zp_call hx hb hml hown hts k_X7_56 (c_X2_fineOf l (m_X2_withoutSign (edge (yv p)))) ⟨by decide, by decide⟩ rfl hl.1 [] rfl (Nat.le_of_ble_eq_true rfl) dX7_grow_44 ⟨by decide, by decide⟩ ?_
    refine zf_i (x' := nI (fN (eig (yv p)))) (ed_abs (hy p)) ?_
    refine lv_istore (lv' := [(5, .int (nI (fN (eig (yv p))))), (3, .long (lN c1)), (0, .ref x), (1, .int (nI p)), (2, .int x0)]) hx hb dX7_grow_47 hl (by decide) rfl (fun ls hl => ?_)
    refine lv_aload_n hx hb dX7_grow_49 rfl (lv_at hl 2 rfl) ?_
    refine lv_iload_n hx hb dX7_grow_50 rfl (lv_at hl 3 rfl) ?_
    refine lv_lload_n hx hb dX7_grow_51 rfl (lv_at hl 1 rfl) ?_
    refine lv_l2i hx hb dX7_grow_52 rfl ?_
    refine zf_i (x' := nI c1) (lN_i c1) ?_
    refine lv_aload_n hx hb dX7_grow_53 rfl (lv_at hl 2 rfl) ?_
    refine va_get (D := D) (ci := 3) (v := .ref vs) (C := RX7) (T := TX7) (N := 4) hx hb hts i_X7 hown hK hP 0 rfl rfl 0 (by decide) (hts _ u90) (fun _ h9 => h9) rfl dX7_grow_54 ?_
    refine lv_iload_n hx hb dX7_grow_57 rfl (lv_at hl 3 rfl) ?_
    refine za_iald hx hb hK hP 1 rfl p (rfl) (by omega) (by decide) dX7_grow_58 ?_
    refine zp_call hx hb hml hown hts k_X7_66 (c_X5_kindOf l (nI (yv p))) ⟨by decide, by decide⟩ rfl hl.1 [.int (nI c1), .int (nI p), .ref x] rfl (Nat.le_of_ble_eq_true rfl) dX7_grow_59 ⟨Nat.le_of_ble_eq_true rfl, Nat.le_of_ble_eq_true rfl⟩ ?_
    refine zf_i (x' := nI (yv p % 4)) (mv_kind _) ?_
    refine zp_call hx hb hml hown hts k_X7_48 (c_X5_told l (nI c1) (nI (yv p % 4))) ⟨by decide, by decide⟩ rfl hl.1 [.int (nI p), .ref x] rfl (Nat.le_of_ble_eq_true rfl) dX7_grow_62 ⟨by decide, by decide⟩ ?_
    refine zf_i (x' := nI (gN (yv p) c1)) ((mv_told _ _).trans (by rw [gN_tell])) ?_
    refine zh_v (T := T) hx hb hml hown hts k_X7_52 (c_X7_write l D T x vs es o t yv p hp (gN (yv p) c1) (gN_lt hc1)) ⟨by decide, by decide⟩ rfl hl.1 [] rfl (Nat.le_of_ble_eq_true rfl) dX7_grow_65 ⟨Nat.le_of_ble_eq_true rfl, Nat.le_of_ble_eq_true rfl⟩ hK hP hD hS hA (ci := 3) rfl rfl rfl [0, 1, 2] [] (wr := []) rfl rfl (by decide) (by decide) (by decide) [0, 1, 2] (fun _ => [(x, .inr (3, [.ref vs, .ref es, .ref o, .ref t])), (vs, .inl (T 0, 8, .inl (fun k => nI ((up yv p (gN (yv p) c1)) k)))), (es, .inl (T 1, 8, .inr (.inl (fun k => edge ((up yv p (gN (yv p) c1)) k)))))]) (by decide) (fun _ => rfl) (fun _ H locs hP hD hS => ?_)
    have hP : va_P D zcl [(x, .inr (3, [.ref vs, .ref es, .ref o, .ref t])), (vs, .inl (T 0, 8, .inl (fun k => nI ((up yv p (gN (yv p) c1)) k)))), (es, .inl (T 1, 8, .inr (.inl (fun k => edge ((up yv p (gN (yv p) c1)) k)))))] H := hP
    have hD : va_D A [(x, .inr (3, [.ref vs, .ref es, .ref o, .ref t])), (vs, .inl (T 0, 8, .inl (fun k => nI ((up yv p (gN (yv p) c1)) k)))), (es, .inl (T 1, 8, .inr (.inl (fun k => edge ((up yv p (gN (yv p) c1)) k)))))] := hD
    refine lv_aload_n hx hb dX7_grow_68 rfl (lv_at hl 2 rfl) ?_
    refine va_get (D := D) (ci := 3) (v := .ref es) (C := RX7) (T := TX7) (N := 4) hx hb hts i_X7 hown hK hP 0 rfl rfl 1 (by decide) (hts _ u91) (fun _ h9 => h9) rfl dX7_grow_69 ?_
    refine lv_iload_n hx hb dX7_grow_72 rfl (lv_at hl 3 rfl) ?_
    refine za_lald hx hb hK hP 2 rfl p (rfl) (by omega) (by decide) dX7_grow_73 ?_
    refine zf_l (x' := edge (gN (yv p) c1)) (by rw [up_s]) ?_
    refine zp_call hx hb hml hown hts k_X7_91 (c_X2_withoutSign l (edge (gN (yv p) c1))) ⟨by decide, by decide⟩ rfl hl.1 [] rfl (Nat.le_of_ble_eq_true rfl) dX7_grow_74 ⟨by decide, by decide⟩ ?_
    refine zp_call hx hb hml hown hts k_X7_56 (c_X2_fineOf l (m_X2_withoutSign (edge (gN (yv p) c1)))) ⟨by decide, by decide⟩ rfl hl.1 [] rfl (Nat.le_of_ble_eq_true rfl) dX7_grow_77 ⟨by decide, by decide⟩ ?_
    refine zf_i (x' := nI (fN (eig (gN (yv p) c1)))) (ed_abs (gN_lt hc1)) ?_
    refine lv_iload hx hb dX7_grow_80 (lv_at hl 0 rfl) ?_
    refine lv_isub hx hb dX7_grow_82 ?_
    exact zh_iret () hx hb hr hlocks dX7_grow_83 hP hD hS (rfl) (rfl)
  · exact absurd h1 (by decide)
set_option maxRecDepth 20000 in
theorem t_X7_grow_out (l : Launch) (hlf : l.stackTraces = false) (D : va_G) (T : Nat → ClassId) (x vs es o t : Nat) (yv : Nat → Nat) (p : Nat) (hp : p < 8) (x0 : Int32) (hg : lN (yv p / 4) + Int32.toInt64 x0 < 0 ∨ 65535 < lN (yv p / 4) + Int32.toInt64 x0) (hy : ∀ k, yv k < 262144) : Tm l yX7_grow cX7_grow 6 (some FieldType.int) 7 D T [.ref x, .int (nI p), .int x0] [(x, .inr (3, [.ref vs, .ref es, .ref o, .ref t])), (vs, .inl (T 0, 8, .inl (fun k => nI (yv k)))), (es, .inl (T 1, 8, .inr (.inl (fun k => edge (yv k)))))] "java/lang/ArithmeticException" := by
  refine Tm.of (by decide) (Nat.le_of_ble_eq_true rfl) ?_
  intro zp ze s zm args below zmeth zc hx hb hr hml hown hts hlocks hout A hA hP hK hD hS hZ ls hl
  have hl : lv_has ls 6 [(0, .ref x), (1, .int (nI p)), (2, .int x0)] := hl
  have h0 := hy p
  refine lv_iload_n hx hb dX7_grow_0 rfl (lv_at hl 1 rfl) ?_
  refine zp_callv hx hb hml hown hts k_X7_31 (c_needPlace l (nI p) (is_ok hp)) ⟨by decide, by decide⟩ rfl hl.1 [] rfl (Nat.le_of_ble_eq_true rfl) dX7_grow_1 ⟨Nat.le_of_ble_eq_true rfl, Nat.le_of_ble_eq_true rfl⟩ ?_
  refine lv_aload_n hx hb dX7_grow_4 rfl (lv_at hl 0 rfl) ?_
  refine va_get (D := D) (ci := 3) (v := .ref vs) (C := RX7) (T := TX7) (N := 4) hx hb hts i_X7 hown hK hP 0 rfl rfl 0 (by decide) (hts _ u90) (fun _ h9 => h9) rfl dX7_grow_5 ?_
  refine lv_iload_n hx hb dX7_grow_8 rfl (lv_at hl 1 rfl) ?_
  refine za_iald hx hb hK hP 1 rfl p (rfl) (by omega) (by decide) dX7_grow_9 ?_
  refine zp_call hx hb hml hown hts k_X7_86 (c_X5_countOf l (nI (yv p))) ⟨by decide, by decide⟩ rfl hl.1 [] rfl (Nat.le_of_ble_eq_true rfl) dX7_grow_10 ⟨by decide, by decide⟩ ?_
  refine zf_i (x' := nI (yv p / 4)) (mv_count (hy p)) ?_
  refine lv_i2l hx hb dX7_grow_13 rfl ?_
  refine zf_l (x' := lN (yv p / 4)) (nI_l (by omega)) ?_
  refine lv_iload_n hx hb dX7_grow_14 rfl (lv_at hl 2 rfl) ?_
  refine lv_i2l hx hb dX7_grow_15 rfl ?_
  refine lv_ladd hx hb dX7_grow_16 ?_
  refine lv_lstore_n (lv' := [(3, .long ((lN (yv p / 4)) + (Int32.toInt64 x0))), (0, .ref x), (1, .int (nI p)), (2, .int x0)]) hx hb dX7_grow_17 rfl hl (by decide) rfl (fun ls hl => ?_)
  refine lv_lload_n hx hb dX7_grow_18 rfl (lv_at hl 0 rfl) ?_
  refine zp_call hx hb hml hown hts k_X7_35 (c_X5_isCount l ((lN (yv p / 4)) + (Int32.toInt64 x0))) ⟨by decide, by decide⟩ rfl hl.1 [] rfl (Nat.le_of_ble_eq_true rfl) dX7_grow_19 ⟨by decide, by decide⟩ ?_
  refine zf_z (x' := false) (congrArg bI (cnt_out hg)) ?_
  refine zb_ne (tgt := 35) hx hb dX7_grow_22 (by decide) (fun h1 => ?_) (fun h1 => ?_)
  · exact absurd h1 (by decide)
  · exact zt_throw hx hb hlf hml hown hts hlocks hout (by decide +kernel) u525 u32 (List.mem_of_getElem? (i := 3) rfl) xg_81 xn_81 xo_81 hP hD hS hZ hl.1 (by decide) (Nat.le_of_ble_eq_true rfl) dX7_grow_25 dX7_grow_28 dX7_grow_29 dX7_grow_31 dX7_grow_34
set_option maxRecDepth 20000 in
theorem c_X7_put_ok (l : Launch) (D : va_G) (T : Nat → ClassId) (x vs es o t : Nat) (yv : Nat → Nat) (p : Nat) (hp : p < 8) (cc : Nat) (hcc : cc < 65536) (e0 b0 : Bool) : Hm l yX7_put cX7_put 6 (some FieldType.int) 5 0 0 D T [.ref x, .int (nI p), .int (nI cc), .int (bI e0), .int (bI b0)] [(x, .inr (3, [.ref vs, .ref es, .ref o, .ref t])), (vs, .inl (T 0, 8, .inl (fun k => nI (yv k)))), (es, .inl (T 1, 8, .inr (.inl (fun k => edge (yv k)))))] (some (.int (fI (mk cc e0 b0)))) (fun _ : Unit => [(x, .inr (3, [.ref vs, .ref es, .ref o, .ref t])), (vs, .inl (T 0, 8, .inl (fun k => nI ((up yv p (mk cc e0 b0)) k)))), (es, .inl (T 1, 8, .inr (.inl (fun k => edge ((up yv p (mk cc e0 b0)) k)))))]) := by
  refine Hm.of (by decide) (Nat.le_of_ble_eq_true rfl) ?_
  intro zp ze s zm args below zmeth zc hx hb hr hml hown hin hts hlocks A hA hP hK hD hS ls hl
  have hl : lv_has ls 6 [(0, .ref x), (1, .int (nI p)), (2, .int (nI cc)), (3, .int (bI e0)), (4, .int (bI b0))] := hl
  refine lv_iload_n hx hb dX7_put_0 rfl (lv_at hl 1 rfl) ?_
  refine zp_callv hx hb hml hown hts k_X7_31 (c_needPlace l (nI p) (is_ok hp)) ⟨by decide, by decide⟩ rfl hl.1 [] rfl (Nat.le_of_ble_eq_true rfl) dX7_put_1 ⟨Nat.le_of_ble_eq_true rfl, Nat.le_of_ble_eq_true rfl⟩ ?_
  refine lv_iload_n hx hb dX7_put_4 rfl (lv_at hl 2 rfl) ?_
  refine lv_i2l hx hb dX7_put_5 rfl ?_
  refine zf_l (x' := lN cc) (nI_l (by omega)) ?_
  refine zp_call hx hb hml hown hts k_X7_35 (c_X5_isCount l (lN cc)) ⟨by decide, by decide⟩ rfl hl.1 [] rfl (Nat.le_of_ble_eq_true rfl) dX7_put_6 ⟨by decide, by decide⟩ ?_
  refine zf_z (x' := true) (congrArg bI ((mv_isCount (by omega)).trans (decide_eq_true (by omega)))) ?_
  refine zb_ne (tgt := 22) hx hb dX7_put_9 (by decide) (fun h1 => ?_) (fun h1 => ?_)
  · refine lv_iload_n hx hb dX7_put_22 rfl (lv_at hl 3 rfl) ?_
    refine zb_eq (tgt := 30) hx hb dX7_put_23 (by decide) (fun h2 => ?_) (fun h2 => ?_)
    · refine lv_iconst (v := 0) hx hb dX7_put_30 (by decide) ?_
      refine lv_iload hx hb dX7_put_31 (lv_at hl 4 rfl) ?_
      refine zb_eq (tgt := 40) hx hb dX7_put_33 (by decide) (fun h3 => ?_) (fun h3 => ?_)
      · refine lv_iconst (v := 0) hx hb dX7_put_40 (by decide) ?_
        refine lv_ior hx hb dX7_put_41 ?_
        refine lv_istore (lv' := [(5, .int (0 ||| 0)), (0, .ref x), (1, .int (nI p)), (2, .int (nI cc)), (3, .int (bI e0)), (4, .int (bI b0))]) hx hb dX7_put_42 hl (by decide) rfl (fun ls hl => ?_)
        refine lv_aload_n hx hb dX7_put_44 rfl (lv_at hl 1 rfl) ?_
        refine lv_iload_n hx hb dX7_put_45 rfl (lv_at hl 2 rfl) ?_
        refine lv_iload_n hx hb dX7_put_46 rfl (lv_at hl 3 rfl) ?_
        refine lv_iload hx hb dX7_put_47 (lv_at hl 0 rfl) ?_
        refine zp_call hx hb hml hown hts k_X7_48 (c_X5_told l (nI cc) (0 ||| 0)) ⟨by decide, by decide⟩ rfl hl.1 [.int (nI p), .ref x] rfl (Nat.le_of_ble_eq_true rfl) dX7_put_49 ⟨by decide, by decide⟩ ?_
        refine zf_i (x' := nI (mk cc e0 b0)) (show m_X5_told (nI cc) _ = _ by rw [h2, h3]; exact mv_told cc 0) ?_
        refine zh_v (T := T) hx hb hml hown hts k_X7_52 (c_X7_write l D T x vs es o t yv p hp (mk cc e0 b0) (mk_lt hcc e0 b0)) ⟨by decide, by decide⟩ rfl hl.1 [] rfl (Nat.le_of_ble_eq_true rfl) dX7_put_52 ⟨Nat.le_of_ble_eq_true rfl, Nat.le_of_ble_eq_true rfl⟩ hK hP hD hS hA (ci := 3) rfl rfl rfl [0, 1, 2] [] (wr := []) rfl rfl (by decide) (by decide) (by decide) [0, 1, 2] (fun _ => [(x, .inr (3, [.ref vs, .ref es, .ref o, .ref t])), (vs, .inl (T 0, 8, .inl (fun k => nI ((up yv p (mk cc e0 b0)) k)))), (es, .inl (T 1, 8, .inr (.inl (fun k => edge ((up yv p (mk cc e0 b0)) k)))))]) (by decide) (fun _ => rfl) (fun _ H locs hP hD hS => ?_)
        have hP : va_P D zcl [(x, .inr (3, [.ref vs, .ref es, .ref o, .ref t])), (vs, .inl (T 0, 8, .inl (fun k => nI ((up yv p (mk cc e0 b0)) k)))), (es, .inl (T 1, 8, .inr (.inl (fun k => edge ((up yv p (mk cc e0 b0)) k)))))] H := hP
        have hD : va_D A [(x, .inr (3, [.ref vs, .ref es, .ref o, .ref t])), (vs, .inl (T 0, 8, .inl (fun k => nI ((up yv p (mk cc e0 b0)) k)))), (es, .inl (T 1, 8, .inr (.inl (fun k => edge ((up yv p (mk cc e0 b0)) k)))))] := hD
        refine lv_aload_n hx hb dX7_put_55 rfl (lv_at hl 1 rfl) ?_
        refine va_get (D := D) (ci := 3) (v := .ref es) (C := RX7) (T := TX7) (N := 4) hx hb hts i_X7 hown hK hP 0 rfl rfl 1 (by decide) (hts _ u91) (fun _ h9 => h9) rfl dX7_put_56 ?_
        refine lv_iload_n hx hb dX7_put_59 rfl (lv_at hl 2 rfl) ?_
        refine za_lald hx hb hK hP 2 rfl p (rfl) (by omega) (by decide) dX7_put_60 ?_
        refine zf_l (x' := edge (mk cc e0 b0)) (by rw [up_s]) ?_
        refine zp_call hx hb hml hown hts k_X7_56 (c_X2_fineOf l (edge (mk cc e0 b0))) ⟨by decide, by decide⟩ rfl hl.1 [] rfl (Nat.le_of_ble_eq_true rfl) dX7_put_61 ⟨by decide, by decide⟩ ?_
        refine zf_i (x' := fI (mk cc e0 b0)) (ed_fine (mk_lt hcc e0 b0)) ?_
        exact zh_iret () hx hb hr hlocks dX7_put_64 hP hD hS (rfl) (rfl)
      · refine lv_iconst (v := 2) hx hb dX7_put_36 (by decide) ?_
        refine lv_goto (tgt := 41) hx hb dX7_put_37 (by decide) ?_
        refine lv_ior hx hb dX7_put_41 ?_
        refine lv_istore (lv' := [(5, .int (0 ||| 2)), (0, .ref x), (1, .int (nI p)), (2, .int (nI cc)), (3, .int (bI e0)), (4, .int (bI b0))]) hx hb dX7_put_42 hl (by decide) rfl (fun ls hl => ?_)
        refine lv_aload_n hx hb dX7_put_44 rfl (lv_at hl 1 rfl) ?_
        refine lv_iload_n hx hb dX7_put_45 rfl (lv_at hl 2 rfl) ?_
        refine lv_iload_n hx hb dX7_put_46 rfl (lv_at hl 3 rfl) ?_
        refine lv_iload hx hb dX7_put_47 (lv_at hl 0 rfl) ?_
        refine zp_call hx hb hml hown hts k_X7_48 (c_X5_told l (nI cc) (0 ||| 2)) ⟨by decide, by decide⟩ rfl hl.1 [.int (nI p), .ref x] rfl (Nat.le_of_ble_eq_true rfl) dX7_put_49 ⟨by decide, by decide⟩ ?_
        refine zf_i (x' := nI (mk cc e0 b0)) (show m_X5_told (nI cc) _ = _ by rw [h2, h3]; exact mv_told cc 2) ?_
        refine zh_v (T := T) hx hb hml hown hts k_X7_52 (c_X7_write l D T x vs es o t yv p hp (mk cc e0 b0) (mk_lt hcc e0 b0)) ⟨by decide, by decide⟩ rfl hl.1 [] rfl (Nat.le_of_ble_eq_true rfl) dX7_put_52 ⟨Nat.le_of_ble_eq_true rfl, Nat.le_of_ble_eq_true rfl⟩ hK hP hD hS hA (ci := 3) rfl rfl rfl [0, 1, 2] [] (wr := []) rfl rfl (by decide) (by decide) (by decide) [0, 1, 2] (fun _ => [(x, .inr (3, [.ref vs, .ref es, .ref o, .ref t])), (vs, .inl (T 0, 8, .inl (fun k => nI ((up yv p (mk cc e0 b0)) k)))), (es, .inl (T 1, 8, .inr (.inl (fun k => edge ((up yv p (mk cc e0 b0)) k)))))]) (by decide) (fun _ => rfl) (fun _ H locs hP hD hS => ?_)
        have hP : va_P D zcl [(x, .inr (3, [.ref vs, .ref es, .ref o, .ref t])), (vs, .inl (T 0, 8, .inl (fun k => nI ((up yv p (mk cc e0 b0)) k)))), (es, .inl (T 1, 8, .inr (.inl (fun k => edge ((up yv p (mk cc e0 b0)) k)))))] H := hP
        have hD : va_D A [(x, .inr (3, [.ref vs, .ref es, .ref o, .ref t])), (vs, .inl (T 0, 8, .inl (fun k => nI ((up yv p (mk cc e0 b0)) k)))), (es, .inl (T 1, 8, .inr (.inl (fun k => edge ((up yv p (mk cc e0 b0)) k)))))] := hD
        refine lv_aload_n hx hb dX7_put_55 rfl (lv_at hl 1 rfl) ?_
        refine va_get (D := D) (ci := 3) (v := .ref es) (C := RX7) (T := TX7) (N := 4) hx hb hts i_X7 hown hK hP 0 rfl rfl 1 (by decide) (hts _ u91) (fun _ h9 => h9) rfl dX7_put_56 ?_
        refine lv_iload_n hx hb dX7_put_59 rfl (lv_at hl 2 rfl) ?_
        refine za_lald hx hb hK hP 2 rfl p (rfl) (by omega) (by decide) dX7_put_60 ?_
        refine zf_l (x' := edge (mk cc e0 b0)) (by rw [up_s]) ?_
        refine zp_call hx hb hml hown hts k_X7_56 (c_X2_fineOf l (edge (mk cc e0 b0))) ⟨by decide, by decide⟩ rfl hl.1 [] rfl (Nat.le_of_ble_eq_true rfl) dX7_put_61 ⟨by decide, by decide⟩ ?_
        refine zf_i (x' := fI (mk cc e0 b0)) (ed_fine (mk_lt hcc e0 b0)) ?_
        exact zh_iret () hx hb hr hlocks dX7_put_64 hP hD hS (rfl) (rfl)
    · refine lv_iconst (v := 1) hx hb dX7_put_26 (by decide) ?_
      refine lv_goto (tgt := 31) hx hb dX7_put_27 (by decide) ?_
      refine lv_iload hx hb dX7_put_31 (lv_at hl 4 rfl) ?_
      refine zb_eq (tgt := 40) hx hb dX7_put_33 (by decide) (fun h4 => ?_) (fun h4 => ?_)
      · refine lv_iconst (v := 0) hx hb dX7_put_40 (by decide) ?_
        refine lv_ior hx hb dX7_put_41 ?_
        refine lv_istore (lv' := [(5, .int (1 ||| 0)), (0, .ref x), (1, .int (nI p)), (2, .int (nI cc)), (3, .int (bI e0)), (4, .int (bI b0))]) hx hb dX7_put_42 hl (by decide) rfl (fun ls hl => ?_)
        refine lv_aload_n hx hb dX7_put_44 rfl (lv_at hl 1 rfl) ?_
        refine lv_iload_n hx hb dX7_put_45 rfl (lv_at hl 2 rfl) ?_
        refine lv_iload_n hx hb dX7_put_46 rfl (lv_at hl 3 rfl) ?_
        refine lv_iload hx hb dX7_put_47 (lv_at hl 0 rfl) ?_
        refine zp_call hx hb hml hown hts k_X7_48 (c_X5_told l (nI cc) (1 ||| 0)) ⟨by decide, by decide⟩ rfl hl.1 [.int (nI p), .ref x] rfl (Nat.le_of_ble_eq_true rfl) dX7_put_49 ⟨by decide, by decide⟩ ?_
        refine zf_i (x' := nI (mk cc e0 b0)) (show m_X5_told (nI cc) _ = _ by rw [h2, h4]; exact mv_told cc 1) ?_
        refine zh_v (T := T) hx hb hml hown hts k_X7_52 (c_X7_write l D T x vs es o t yv p hp (mk cc e0 b0) (mk_lt hcc e0 b0)) ⟨by decide, by decide⟩ rfl hl.1 [] rfl (Nat.le_of_ble_eq_true rfl) dX7_put_52 ⟨Nat.le_of_ble_eq_true rfl, Nat.le_of_ble_eq_true rfl⟩ hK hP hD hS hA (ci := 3) rfl rfl rfl [0, 1, 2] [] (wr := []) rfl rfl (by decide) (by decide) (by decide) [0, 1, 2] (fun _ => [(x, .inr (3, [.ref vs, .ref es, .ref o, .ref t])), (vs, .inl (T 0, 8, .inl (fun k => nI ((up yv p (mk cc e0 b0)) k)))), (es, .inl (T 1, 8, .inr (.inl (fun k => edge ((up yv p (mk cc e0 b0)) k)))))]) (by decide) (fun _ => rfl) (fun _ H locs hP hD hS => ?_)
        have hP : va_P D zcl [(x, .inr (3, [.ref vs, .ref es, .ref o, .ref t])), (vs, .inl (T 0, 8, .inl (fun k => nI ((up yv p (mk cc e0 b0)) k)))), (es, .inl (T 1, 8, .inr (.inl (fun k => edge ((up yv p (mk cc e0 b0)) k)))))] H := hP
        have hD : va_D A [(x, .inr (3, [.ref vs, .ref es, .ref o, .ref t])), (vs, .inl (T 0, 8, .inl (fun k => nI ((up yv p (mk cc e0 b0)) k)))), (es, .inl (T 1, 8, .inr (.inl (fun k => edge ((up yv p (mk cc e0 b0)) k)))))] := hD
        refine lv_aload_n hx hb dX7_put_55 rfl (lv_at hl 1 rfl) ?_
        refine va_get (D := D) (ci := 3) (v := .ref es) (C := RX7) (T := TX7) (N := 4) hx hb hts i_X7 hown hK hP 0 rfl rfl 1 (by decide) (hts _ u91) (fun _ h9 => h9) rfl dX7_put_56 ?_
        refine lv_iload_n hx hb dX7_put_59 rfl (lv_at hl 2 rfl) ?_
        refine za_lald hx hb hK hP 2 rfl p (rfl) (by omega) (by decide) dX7_put_60 ?_
        refine zf_l (x' := edge (mk cc e0 b0)) (by rw [up_s]) ?_
        refine zp_call hx hb hml hown hts k_X7_56 (c_X2_fineOf l (edge (mk cc e0 b0))) ⟨by decide, by decide⟩ rfl hl.1 [] rfl (Nat.le_of_ble_eq_true rfl) dX7_put_61 ⟨by decide, by decide⟩ ?_
        refine zf_i (x' := fI (mk cc e0 b0)) (ed_fine (mk_lt hcc e0 b0)) ?_
        exact zh_iret () hx hb hr hlocks dX7_put_64 hP hD hS (rfl) (rfl)
      · refine lv_iconst (v := 2) hx hb dX7_put_36 (by decide) ?_
        refine lv_goto (tgt := 41) hx hb dX7_put_37 (by decide) ?_
        refine lv_ior hx hb dX7_put_41 ?_
        refine lv_istore (lv' := [(5, .int (1 ||| 2)), (0, .ref x), (1, .int (nI p)), (2, .int (nI cc)), (3, .int (bI e0)), (4, .int (bI b0))]) hx hb dX7_put_42 hl (by decide) rfl (fun ls hl => ?_)
        refine lv_aload_n hx hb dX7_put_44 rfl (lv_at hl 1 rfl) ?_
        refine lv_iload_n hx hb dX7_put_45 rfl (lv_at hl 2 rfl) ?_
        refine lv_iload_n hx hb dX7_put_46 rfl (lv_at hl 3 rfl) ?_
        refine lv_iload hx hb dX7_put_47 (lv_at hl 0 rfl) ?_
        refine zp_call hx hb hml hown hts k_X7_48 (c_X5_told l (nI cc) (1 ||| 2)) ⟨by decide, by decide⟩ rfl hl.1 [.int (nI p), .ref x] rfl (Nat.le_of_ble_eq_true rfl) dX7_put_49 ⟨by decide, by decide⟩ ?_
        refine zf_i (x' := nI (mk cc e0 b0)) (show m_X5_told (nI cc) _ = _ by rw [h2, h4]; exact mv_told cc 3) ?_
        refine zh_v (T := T) hx hb hml hown hts k_X7_52 (c_X7_write l D T x vs es o t yv p hp (mk cc e0 b0) (mk_lt hcc e0 b0)) ⟨by decide, by decide⟩ rfl hl.1 [] rfl (Nat.le_of_ble_eq_true rfl) dX7_put_52 ⟨Nat.le_of_ble_eq_true rfl, Nat.le_of_ble_eq_true rfl⟩ hK hP hD hS hA (ci := 3) rfl rfl rfl [0, 1, 2] [] (wr := []) rfl rfl (by decide) (by decide) (by decide) [0, 1, 2] (fun _ => [(x, .inr (3, [.ref vs, .ref es, .ref o, .ref t])), (vs, .inl (T 0, 8, .inl (fun k => nI ((up yv p (mk cc e0 b0)) k)))), (es, .inl (T 1, 8, .inr (.inl (fun k => edge ((up yv p (mk cc e0 b0)) k)))))]) (by decide) (fun _ => rfl) (fun _ H locs hP hD hS => ?_)
        have hP : va_P D zcl [(x, .inr (3, [.ref vs, .ref es, .ref o, .ref t])), (vs, .inl (T 0, 8, .inl (fun k => nI ((up yv p (mk cc e0 b0)) k)))), (es, .inl (T 1, 8, .inr (.inl (fun k => edge ((up yv p (mk cc e0 b0)) k)))))] H := hP
        have hD : va_D A [(x, .inr (3, [.ref vs, .ref es, .ref o, .ref t])), (vs, .inl (T 0, 8, .inl (fun k => nI ((up yv p (mk cc e0 b0)) k)))), (es, .inl (T 1, 8, .inr (.inl (fun k => edge ((up yv p (mk cc e0 b0)) k)))))] := hD
        refine lv_aload_n hx hb dX7_put_55 rfl (lv_at hl 1 rfl) ?_
        refine va_get (D := D) (ci := 3) (v := .ref es) (C := RX7) (T := TX7) (N := 4) hx hb hts i_X7 hown hK hP 0 rfl rfl 1 (by decide) (hts _ u91) (fun _ h9 => h9) rfl dX7_put_56 ?_
        refine lv_iload_n hx hb dX7_put_59 rfl (lv_at hl 2 rfl) ?_
        refine za_lald hx hb hK hP 2 rfl p (rfl) (by omega) (by decide) dX7_put_60 ?_
        refine zf_l (x' := edge (mk cc e0 b0)) (by rw [up_s]) ?_
        refine zp_call hx hb hml hown hts k_X7_56 (c_X2_fineOf l (edge (mk cc e0 b0))) ⟨by decide, by decide⟩ rfl hl.1 [] rfl (Nat.le_of_ble_eq_true rfl) dX7_put_61 ⟨by decide, by decide⟩ ?_
        refine zf_i (x' := fI (mk cc e0 b0)) (ed_fine (mk_lt hcc e0 b0)) ?_
        exact zh_iret () hx hb hr hlocks dX7_put_64 hP hD hS (rfl) (rfl)
  · exact absurd h1 (by decide)
set_option maxRecDepth 20000 in
theorem t_X7_put_cnt (l : Launch) (hlf : l.stackTraces = false) (D : va_G) (T : Nat → ClassId) (x vs es o t : Nat) (yv : Nat → Nat) (p : Nat) (hp : p < 8) (y : Int32) (hx1 : y < 0 ∨ ¬ y ≤ 65535) (e0 b0 : Bool) : Tm l yX7_put cX7_put 6 (some FieldType.int) 7 D T [.ref x, .int (nI p), .int y, .int (bI e0), .int (bI b0)] [(x, .inr (3, [.ref vs, .ref es, .ref o, .ref t])), (vs, .inl (T 0, 8, .inl (fun k => nI (yv k)))), (es, .inl (T 1, 8, .inr (.inl (fun k => edge (yv k)))))] "java/lang/IllegalArgumentException" := by
  refine Tm.of (by decide) (Nat.le_of_ble_eq_true rfl) ?_
  intro zp ze s zm args below zmeth zc hx hb hr hml hown hts hlocks hout A hA hP hK hD hS hZ ls hl
  have hl : lv_has ls 6 [(0, .ref x), (1, .int (nI p)), (2, .int y), (3, .int (bI e0)), (4, .int (bI b0))] := hl
  refine lv_iload_n hx hb dX7_put_0 rfl (lv_at hl 1 rfl) ?_
  refine zp_callv hx hb hml hown hts k_X7_31 (c_needPlace l (nI p) (is_ok hp)) ⟨by decide, by decide⟩ rfl hl.1 [] rfl (Nat.le_of_ble_eq_true rfl) dX7_put_1 ⟨Nat.le_of_ble_eq_true rfl, Nat.le_of_ble_eq_true rfl⟩ ?_
  refine lv_iload_n hx hb dX7_put_4 rfl (lv_at hl 2 rfl) ?_
  refine lv_i2l hx hb dX7_put_5 rfl ?_
  refine zp_call hx hb hml hown hts k_X7_35 (c_X5_isCount l (Int32.toInt64 y)) ⟨by decide, by decide⟩ rfl hl.1 [] rfl (Nat.le_of_ble_eq_true rfl) dX7_put_6 ⟨by decide, by decide⟩ ?_
  refine zf_z (x' := false) (congrArg bI (cnt_put hx1)) ?_
  refine zb_ne (tgt := 22) hx hb dX7_put_9 (by decide) (fun h1 => ?_) (fun h1 => ?_)
  · exact absurd h1 (by decide)
  · exact zt_throw hx hb hlf hml hown hts hlocks hout (by decide +kernel) u437 u28 (List.mem_of_getElem? (i := 1) rfl) xg_45 xn_45 xo_45 hP hD hS hZ hl.1 (by decide) (Nat.le_of_ble_eq_true rfl) dX7_put_12 dX7_put_15 dX7_put_16 dX7_put_18 dX7_put_21
set_option maxRecDepth 20000 in
theorem t_X7_order_no (l : Launch) (hlf : l.stackTraces = false) (D : va_G) (T : Nat → ClassId) (x vs es o t : Nat) (yv : Nat → Nat) (x0 y0 : Int32) (hx0 : (m_X8_is x0 && m_X8_is y0) = false) : Tm l yX7_order cX7_order 3 (some FieldType.int) 7 D T [.ref x, .int x0, .int y0] [(x, .inr (3, [.ref vs, .ref es, .ref o, .ref t])), (vs, .inl (T 0, 8, .inl (fun k => nI (yv k)))), (es, .inl (T 1, 8, .inr (.inl (fun k => edge (yv k)))))] "java/lang/IndexOutOfBoundsException" := by
  refine Tm.of (by decide) (Nat.le_of_ble_eq_true rfl) ?_
  intro zp ze s zm args below zmeth zc hx hb hr hml hown hts hlocks hout A hA hP hK hD hS hZ ls hl
  have hl : lv_has ls 3 [(0, .ref x), (1, .int x0), (2, .int y0)] := hl
  by_cases q1 : m_X8_is x0 = true
  · refine lv_iload_n hx hb dX7_order_0 rfl (lv_at hl 1 rfl) ?_
    refine zp_callv hx hb hml hown hts k_X7_31 (c_needPlace l x0 q1) ⟨by decide, by decide⟩ rfl hl.1 [] rfl (Nat.le_of_ble_eq_true rfl) dX7_order_1 ⟨Nat.le_of_ble_eq_true rfl, Nat.le_of_ble_eq_true rfl⟩ ?_
    refine lv_iload_n hx hb dX7_order_4 rfl (lv_at hl 2 rfl) ?_
    refine zt_s (T := T) hx hb hml hown hts k_X7_31 (t_needPlace l hlf D T y0 (is_2 hx0 q1)) ⟨by decide, by decide⟩ rfl hl.1 [] rfl (Nat.le_of_ble_eq_true rfl) dX7_order_5 ⟨Nat.le_of_ble_eq_true rfl, Nat.le_of_ble_eq_true rfl⟩ hK hP hD hS hA hZ [] [0, 1, 2] (wr := [(x, .inr (3, [.ref vs, .ref es, .ref o, .ref t])), (vs, .inl (T 0, 8, .inl (fun k => nI (yv k)))), (es, .inl (T 1, 8, .inr (.inl (fun k => edge (yv k)))))]) rfl rfl (by decide) (by decide) (by decide) [0, 1, 2] (by decide) rfl (fun ce q9 H locs hP hD hS hce hcv hcl => ?_)
    exact zt_out hlocks hout hP hD hS hce hcv hcl
  · refine lv_iload_n hx hb dX7_order_0 rfl (lv_at hl 1 rfl) ?_
    refine zt_s (T := T) hx hb hml hown hts k_X7_31 (t_needPlace l hlf D T x0 (is_f q1)) ⟨by decide, by decide⟩ rfl hl.1 [] rfl (Nat.le_of_ble_eq_true rfl) dX7_order_1 ⟨Nat.le_of_ble_eq_true rfl, Nat.le_of_ble_eq_true rfl⟩ hK hP hD hS hA hZ [] [0, 1, 2] (wr := [(x, .inr (3, [.ref vs, .ref es, .ref o, .ref t])), (vs, .inl (T 0, 8, .inl (fun k => nI (yv k)))), (es, .inl (T 1, 8, .inr (.inl (fun k => edge (yv k)))))]) rfl rfl (by decide) (by decide) (by decide) [0, 1, 2] (by decide) rfl (fun ce q9 H locs hP hD hS hce hcv hcl => ?_)
    exact zt_out hlocks hout hP hD hS hce hcv hcl
set_option maxRecDepth 20000 in
theorem t_X7_opposite_no (l : Launch) (hlf : l.stackTraces = false) (D : va_G) (T : Nat → ClassId) (x vs es o t : Nat) (yv : Nat → Nat) (x0 y0 : Int32) (hx0 : (m_X8_is x0 && m_X8_is y0) = false) : Tm l yX7_opposite cX7_opposite 5 (some FieldType.boolean) 7 D T [.ref x, .int x0, .int y0] [(x, .inr (3, [.ref vs, .ref es, .ref o, .ref t])), (vs, .inl (T 0, 8, .inl (fun k => nI (yv k)))), (es, .inl (T 1, 8, .inr (.inl (fun k => edge (yv k)))))] "java/lang/IndexOutOfBoundsException" := by
  refine Tm.of (by decide) (Nat.le_of_ble_eq_true rfl) ?_
  intro zp ze s zm args below zmeth zc hx hb hr hml hown hts hlocks hout A hA hP hK hD hS hZ ls hl
  have hl : lv_has ls 5 [(0, .ref x), (1, .int x0), (2, .int y0)] := hl
  by_cases q1 : m_X8_is x0 = true
  · refine lv_iload_n hx hb dX7_opposite_0 rfl (lv_at hl 1 rfl) ?_
    refine zp_callv hx hb hml hown hts k_X7_31 (c_needPlace l x0 q1) ⟨by decide, by decide⟩ rfl hl.1 [] rfl (Nat.le_of_ble_eq_true rfl) dX7_opposite_1 ⟨Nat.le_of_ble_eq_true rfl, Nat.le_of_ble_eq_true rfl⟩ ?_
    refine lv_iload_n hx hb dX7_opposite_4 rfl (lv_at hl 2 rfl) ?_
    refine zt_s (T := T) hx hb hml hown hts k_X7_31 (t_needPlace l hlf D T y0 (is_2 hx0 q1)) ⟨by decide, by decide⟩ rfl hl.1 [] rfl (Nat.le_of_ble_eq_true rfl) dX7_opposite_5 ⟨Nat.le_of_ble_eq_true rfl, Nat.le_of_ble_eq_true rfl⟩ hK hP hD hS hA hZ [] [0, 1, 2] (wr := [(x, .inr (3, [.ref vs, .ref es, .ref o, .ref t])), (vs, .inl (T 0, 8, .inl (fun k => nI (yv k)))), (es, .inl (T 1, 8, .inr (.inl (fun k => edge (yv k)))))]) rfl rfl (by decide) (by decide) (by decide) [0, 1, 2] (by decide) rfl (fun ce q9 H locs hP hD hS hce hcv hcl => ?_)
    exact zt_out hlocks hout hP hD hS hce hcv hcl
  · refine lv_iload_n hx hb dX7_opposite_0 rfl (lv_at hl 1 rfl) ?_
    refine zt_s (T := T) hx hb hml hown hts k_X7_31 (t_needPlace l hlf D T x0 (is_f q1)) ⟨by decide, by decide⟩ rfl hl.1 [] rfl (Nat.le_of_ble_eq_true rfl) dX7_opposite_1 ⟨Nat.le_of_ble_eq_true rfl, Nat.le_of_ble_eq_true rfl⟩ hK hP hD hS hA hZ [] [0, 1, 2] (wr := [(x, .inr (3, [.ref vs, .ref es, .ref o, .ref t])), (vs, .inl (T 0, 8, .inl (fun k => nI (yv k)))), (es, .inl (T 1, 8, .inr (.inl (fun k => edge (yv k)))))]) rfl rfl (by decide) (by decide) (by decide) [0, 1, 2] (by decide) rfl (fun ce q9 H locs hP hD hS hce hcv hcl => ?_)
    exact zt_out hlocks hout hP hD hS hce hcv hcl
set_option maxRecDepth 20000 in
theorem t_X7_eightfold_no (l : Launch) (hlf : l.stackTraces = false) (D : va_G) (T : Nat → ClassId) (x vs es o t : Nat) (yv : Nat → Nat) (x0 y0 : Int32) (hx0 : (m_X8_is x0 && m_X8_is y0) = false) : Tm l yX7_eightfold cX7_eightfold 6 (some FieldType.boolean) 7 D T [.ref x, .int x0, .int y0] [(x, .inr (3, [.ref vs, .ref es, .ref o, .ref t])), (vs, .inl (T 0, 8, .inl (fun k => nI (yv k)))), (es, .inl (T 1, 8, .inr (.inl (fun k => edge (yv k)))))] "java/lang/IndexOutOfBoundsException" := by
  refine Tm.of (by decide) (Nat.le_of_ble_eq_true rfl) ?_
  intro zp ze s zm args below zmeth zc hx hb hr hml hown hts hlocks hout A hA hP hK hD hS hZ ls hl
  have hl : lv_has ls 6 [(0, .ref x), (1, .int x0), (2, .int y0)] := hl
  by_cases q1 : m_X8_is x0 = true
  · refine lv_iload_n hx hb dX7_eightfold_0 rfl (lv_at hl 1 rfl) ?_
    refine zp_callv hx hb hml hown hts k_X7_31 (c_needPlace l x0 q1) ⟨by decide, by decide⟩ rfl hl.1 [] rfl (Nat.le_of_ble_eq_true rfl) dX7_eightfold_1 ⟨Nat.le_of_ble_eq_true rfl, Nat.le_of_ble_eq_true rfl⟩ ?_
    refine lv_iload_n hx hb dX7_eightfold_4 rfl (lv_at hl 2 rfl) ?_
    refine zt_s (T := T) hx hb hml hown hts k_X7_31 (t_needPlace l hlf D T y0 (is_2 hx0 q1)) ⟨by decide, by decide⟩ rfl hl.1 [] rfl (Nat.le_of_ble_eq_true rfl) dX7_eightfold_5 ⟨Nat.le_of_ble_eq_true rfl, Nat.le_of_ble_eq_true rfl⟩ hK hP hD hS hA hZ [] [0, 1, 2] (wr := [(x, .inr (3, [.ref vs, .ref es, .ref o, .ref t])), (vs, .inl (T 0, 8, .inl (fun k => nI (yv k)))), (es, .inl (T 1, 8, .inr (.inl (fun k => edge (yv k)))))]) rfl rfl (by decide) (by decide) (by decide) [0, 1, 2] (by decide) rfl (fun ce q9 H locs hP hD hS hce hcv hcl => ?_)
    exact zt_out hlocks hout hP hD hS hce hcv hcl
  · refine lv_iload_n hx hb dX7_eightfold_0 rfl (lv_at hl 1 rfl) ?_
    refine zt_s (T := T) hx hb hml hown hts k_X7_31 (t_needPlace l hlf D T x0 (is_f q1)) ⟨by decide, by decide⟩ rfl hl.1 [] rfl (Nat.le_of_ble_eq_true rfl) dX7_eightfold_1 ⟨Nat.le_of_ble_eq_true rfl, Nat.le_of_ble_eq_true rfl⟩ hK hP hD hS hA hZ [] [0, 1, 2] (wr := [(x, .inr (3, [.ref vs, .ref es, .ref o, .ref t])), (vs, .inl (T 0, 8, .inl (fun k => nI (yv k)))), (es, .inl (T 1, 8, .inr (.inl (fun k => edge (yv k)))))]) rfl rfl (by decide) (by decide) (by decide) [0, 1, 2] (by decide) rfl (fun ce q9 H locs hP hD hS hce hcv hcl => ?_)
    exact zt_out hlocks hout hP hD hS hce hcv hcl
set_option maxRecDepth 20000 in
theorem t_X7_eighth_no (l : Launch) (hlf : l.stackTraces = false) (D : va_G) (T : Nat → ClassId) (x vs es o t : Nat) (yv : Nat → Nat) (x0 y0 : Int32) (hx0 : (m_X8_is x0 && m_X8_is y0) = false) : Tm l yX7_eighth cX7_eighth 6 (some FieldType.boolean) 7 D T [.ref x, .int x0, .int y0] [(x, .inr (3, [.ref vs, .ref es, .ref o, .ref t])), (vs, .inl (T 0, 8, .inl (fun k => nI (yv k)))), (es, .inl (T 1, 8, .inr (.inl (fun k => edge (yv k)))))] "java/lang/IndexOutOfBoundsException" := by
  refine Tm.of (by decide) (Nat.le_of_ble_eq_true rfl) ?_
  intro zp ze s zm args below zmeth zc hx hb hr hml hown hts hlocks hout A hA hP hK hD hS hZ ls hl
  have hl : lv_has ls 6 [(0, .ref x), (1, .int x0), (2, .int y0)] := hl
  by_cases q1 : m_X8_is x0 = true
  · refine lv_iload_n hx hb dX7_eighth_0 rfl (lv_at hl 1 rfl) ?_
    refine zp_callv hx hb hml hown hts k_X7_31 (c_needPlace l x0 q1) ⟨by decide, by decide⟩ rfl hl.1 [] rfl (Nat.le_of_ble_eq_true rfl) dX7_eighth_1 ⟨Nat.le_of_ble_eq_true rfl, Nat.le_of_ble_eq_true rfl⟩ ?_
    refine lv_iload_n hx hb dX7_eighth_4 rfl (lv_at hl 2 rfl) ?_
    refine zt_s (T := T) hx hb hml hown hts k_X7_31 (t_needPlace l hlf D T y0 (is_2 hx0 q1)) ⟨by decide, by decide⟩ rfl hl.1 [] rfl (Nat.le_of_ble_eq_true rfl) dX7_eighth_5 ⟨Nat.le_of_ble_eq_true rfl, Nat.le_of_ble_eq_true rfl⟩ hK hP hD hS hA hZ [] [0, 1, 2] (wr := [(x, .inr (3, [.ref vs, .ref es, .ref o, .ref t])), (vs, .inl (T 0, 8, .inl (fun k => nI (yv k)))), (es, .inl (T 1, 8, .inr (.inl (fun k => edge (yv k)))))]) rfl rfl (by decide) (by decide) (by decide) [0, 1, 2] (by decide) rfl (fun ce q9 H locs hP hD hS hce hcv hcl => ?_)
    exact zt_out hlocks hout hP hD hS hce hcv hcl
  · refine lv_iload_n hx hb dX7_eighth_0 rfl (lv_at hl 1 rfl) ?_
    refine zt_s (T := T) hx hb hml hown hts k_X7_31 (t_needPlace l hlf D T x0 (is_f q1)) ⟨by decide, by decide⟩ rfl hl.1 [] rfl (Nat.le_of_ble_eq_true rfl) dX7_eighth_1 ⟨Nat.le_of_ble_eq_true rfl, Nat.le_of_ble_eq_true rfl⟩ hK hP hD hS hA hZ [] [0, 1, 2] (wr := [(x, .inr (3, [.ref vs, .ref es, .ref o, .ref t])), (vs, .inl (T 0, 8, .inl (fun k => nI (yv k)))), (es, .inl (T 1, 8, .inr (.inl (fun k => edge (yv k)))))]) rfl rfl (by decide) (by decide) (by decide) [0, 1, 2] (by decide) rfl (fun ce q9 H locs hP hD hS hce hcv hcl => ?_)
    exact zt_out hlocks hout hP hD hS hce hcv hcl
set_option maxRecDepth 20000 in
theorem c_X7_opposite_ok (l : Launch) (D : va_G) (T : Nat → ClassId) (x vs es o t : Nat) (yv : Nat → Nat) (p : Nat) (hp : p < 8) (p2 : Nat) (hp2 : p2 < 8) (hy : ∀ k, yv k < 262144) : Hm l yX7_opposite cX7_opposite 5 (some FieldType.boolean) 5 0 0 D T [.ref x, .int (nI p), .int (nI p2)] [(x, .inr (3, [.ref vs, .ref es, .ref o, .ref t])), (vs, .inl (T 0, 8, .inl (fun k => nI (yv k)))), (es, .inl (T 1, 8, .inr (.inl (fun k => edge (yv k)))))] (some (.int (bI true))) (fun _ : Unit => [(x, .inr (3, [.ref vs, .ref es, .ref o, .ref t])), (vs, .inl (T 0, 8, .inl (fun k => nI ((up yv p2 (oppN (yv p))) k)))), (es, .inl (T 1, 8, .inr (.inl (fun k => edge ((up yv p2 (oppN (yv p))) k)))))]) := by
  refine Hm.of (by decide) (Nat.le_of_ble_eq_true rfl) ?_
  intro zp ze s zm args below zmeth zc hx hb hr hml hown hin hts hlocks A hA hP hK hD hS ls hl
  have hl : lv_has ls 5 [(0, .ref x), (1, .int (nI p)), (2, .int (nI p2))] := hl
  refine lv_iload_n hx hb dX7_opposite_0 rfl (lv_at hl 1 rfl) ?_
  refine zp_callv hx hb hml hown hts k_X7_31 (c_needPlace l (nI p) (is_ok hp)) ⟨by decide, by decide⟩ rfl hl.1 [] rfl (Nat.le_of_ble_eq_true rfl) dX7_opposite_1 ⟨Nat.le_of_ble_eq_true rfl, Nat.le_of_ble_eq_true rfl⟩ ?_
  refine lv_iload_n hx hb dX7_opposite_4 rfl (lv_at hl 2 rfl) ?_
  refine zp_callv hx hb hml hown hts k_X7_31 (c_needPlace l (nI p2) (is_ok hp2)) ⟨by decide, by decide⟩ rfl hl.1 [] rfl (Nat.le_of_ble_eq_true rfl) dX7_opposite_5 ⟨Nat.le_of_ble_eq_true rfl, Nat.le_of_ble_eq_true rfl⟩ ?_
  refine lv_aload_n hx hb dX7_opposite_8 rfl (lv_at hl 0 rfl) ?_
  refine va_get (D := D) (ci := 3) (v := .ref es) (C := RX7) (T := TX7) (N := 4) hx hb hts i_X7 hown hK hP 0 rfl rfl 1 (by decide) (hts _ u91) (fun _ h9 => h9) rfl dX7_opposite_9 ?_
  refine lv_iload_n hx hb dX7_opposite_12 rfl (lv_at hl 1 rfl) ?_
  refine za_lald hx hb hK hP 2 rfl p (rfl) (by omega) (by decide) dX7_opposite_13 ?_
  refine lv_lstore_n (lv' := [(3, .long (edge (yv p))), (0, .ref x), (1, .int (nI p)), (2, .int (nI p2))]) hx hb dX7_opposite_14 rfl hl (by decide) rfl (fun ls hl => ?_)
  refine lv_aload_n hx hb dX7_opposite_15 rfl (lv_at hl 1 rfl) ?_
  refine lv_iload_n hx hb dX7_opposite_16 rfl (lv_at hl 3 rfl) ?_
  refine lv_aload_n hx hb dX7_opposite_17 rfl (lv_at hl 1 rfl) ?_
  refine va_get (D := D) (ci := 3) (v := .ref vs) (C := RX7) (T := TX7) (N := 4) hx hb hts i_X7 hown hK hP 0 rfl rfl 0 (by decide) (hts _ u90) (fun _ h9 => h9) rfl dX7_opposite_18 ?_
  refine lv_iload_n hx hb dX7_opposite_21 rfl (lv_at hl 2 rfl) ?_
  refine za_iald hx hb hK hP 1 rfl p (rfl) (by omega) (by decide) dX7_opposite_22 ?_
  refine zp_call hx hb hml hown hts k_X7_101 (c_X5_oppositeOf l (nI (yv p))) ⟨by decide, by decide⟩ rfl hl.1 [.int (nI p2), .ref x] rfl (Nat.le_of_ble_eq_true rfl) dX7_opposite_23 ⟨by decide, by decide⟩ ?_
  refine zf_i (x' := nI (oppN (yv p))) (mv_opp (hy p)) ?_
  refine zh_v (T := T) hx hb hml hown hts k_X7_52 (c_X7_write l D T x vs es o t yv p2 hp2 (oppN (yv p)) (oppN_lt (hy p))) ⟨by decide, by decide⟩ rfl hl.1 [] rfl (Nat.le_of_ble_eq_true rfl) dX7_opposite_26 ⟨Nat.le_of_ble_eq_true rfl, Nat.le_of_ble_eq_true rfl⟩ hK hP hD hS hA (ci := 3) rfl rfl rfl [0, 1, 2] [] (wr := []) rfl rfl (by decide) (by decide) (by decide) [0, 1, 2] (fun _ => [(x, .inr (3, [.ref vs, .ref es, .ref o, .ref t])), (vs, .inl (T 0, 8, .inl (fun k => nI ((up yv p2 (oppN (yv p))) k)))), (es, .inl (T 1, 8, .inr (.inl (fun k => edge ((up yv p2 (oppN (yv p))) k)))))]) (by decide) (fun _ => rfl) (fun _ H locs hP hD hS => ?_)
  have hP : va_P D zcl [(x, .inr (3, [.ref vs, .ref es, .ref o, .ref t])), (vs, .inl (T 0, 8, .inl (fun k => nI ((up yv p2 (oppN (yv p))) k)))), (es, .inl (T 1, 8, .inr (.inl (fun k => edge ((up yv p2 (oppN (yv p))) k)))))] H := hP
  have hD : va_D A [(x, .inr (3, [.ref vs, .ref es, .ref o, .ref t])), (vs, .inl (T 0, 8, .inl (fun k => nI ((up yv p2 (oppN (yv p))) k)))), (es, .inl (T 1, 8, .inr (.inl (fun k => edge ((up yv p2 (oppN (yv p))) k)))))] := hD
  refine lv_lload_n hx hb dX7_opposite_29 rfl (lv_at hl 0 rfl) ?_
  refine lv_aload_n hx hb dX7_opposite_30 rfl (lv_at hl 1 rfl) ?_
  refine va_get (D := D) (ci := 3) (v := .ref es) (C := RX7) (T := TX7) (N := 4) hx hb hts i_X7 hown hK hP 0 rfl rfl 1 (by decide) (hts _ u91) (fun _ h9 => h9) rfl dX7_opposite_31 ?_
  refine lv_iload_n hx hb dX7_opposite_34 rfl (lv_at hl 3 rfl) ?_
  refine za_lald hx hb hK hP 2 rfl p2 (rfl) (by omega) (by decide) dX7_opposite_35 ?_
  refine zf_l (x' := edge (oppN (yv p))) (by rw [up_s]) ?_
  refine zp_call hx hb hml hown hts k_X7_104 (c_X3_isOpposite l (edge (yv p)) (edge (oppN (yv p)))) ⟨by decide, by decide⟩ rfl hl.1 [] rfl (Nat.le_of_ble_eq_true rfl) dX7_opposite_36 ⟨by decide, by decide⟩ ?_
  refine zf_z (x' := true) (congrArg bI (ed_opp (hy p))) ?_
  exact zh_zret () hx hb hr hlocks dX7_opposite_39 hP hD hS (rfl) (rfl)
set_option maxRecDepth 20000 in
theorem c_X7_eightfold_ok (l : Launch) (D : va_G) (T : Nat → ClassId) (x vs es o t : Nat) (yv : Nat → Nat) (p : Nat) (hp : p < 8) (p2 : Nat) (hp2 : p2 < 8) (he : eig (yv p) ≤ 65535) (hy : ∀ k, yv k < 262144) : Hm l yX7_eightfold cX7_eightfold 6 (some FieldType.boolean) 5 0 0 D T [.ref x, .int (nI p), .int (nI p2)] [(x, .inr (3, [.ref vs, .ref es, .ref o, .ref t])), (vs, .inl (T 0, 8, .inl (fun k => nI (yv k)))), (es, .inl (T 1, 8, .inr (.inl (fun k => edge (yv k)))))] (some (.int (bI true))) (fun _ : Unit => [(x, .inr (3, [.ref vs, .ref es, .ref o, .ref t])), (vs, .inl (T 0, 8, .inl (fun k => nI ((up yv p2 (e8N (yv p))) k)))), (es, .inl (T 1, 8, .inr (.inl (fun k => edge ((up yv p2 (e8N (yv p))) k)))))]) := by
  refine Hm.of (by decide) (Nat.le_of_ble_eq_true rfl) ?_
  intro zp ze s zm args below zmeth zc hx hb hr hml hown hin hts hlocks A hA hP hK hD hS ls hl
  have hl : lv_has ls 6 [(0, .ref x), (1, .int (nI p)), (2, .int (nI p2))] := hl
  refine lv_iload_n hx hb dX7_eightfold_0 rfl (lv_at hl 1 rfl) ?_
  refine zp_callv hx hb hml hown hts k_X7_31 (c_needPlace l (nI p) (is_ok hp)) ⟨by decide, by decide⟩ rfl hl.1 [] rfl (Nat.le_of_ble_eq_true rfl) dX7_eightfold_1 ⟨Nat.le_of_ble_eq_true rfl, Nat.le_of_ble_eq_true rfl⟩ ?_
  refine lv_iload_n hx hb dX7_eightfold_4 rfl (lv_at hl 2 rfl) ?_
  refine zp_callv hx hb hml hown hts k_X7_31 (c_needPlace l (nI p2) (is_ok hp2)) ⟨by decide, by decide⟩ rfl hl.1 [] rfl (Nat.le_of_ble_eq_true rfl) dX7_eightfold_5 ⟨Nat.le_of_ble_eq_true rfl, Nat.le_of_ble_eq_true rfl⟩ ?_
  refine lv_aload_n hx hb dX7_eightfold_8 rfl (lv_at hl 0 rfl) ?_
  refine va_get (D := D) (ci := 3) (v := .ref vs) (C := RX7) (T := TX7) (N := 4) hx hb hts i_X7 hown hK hP 0 rfl rfl 0 (by decide) (hts _ u90) (fun _ h9 => h9) rfl dX7_eightfold_9 ?_
  refine lv_iload_n hx hb dX7_eightfold_12 rfl (lv_at hl 1 rfl) ?_
  refine za_iald hx hb hK hP 1 rfl p (rfl) (by omega) (by decide) dX7_eightfold_13 ?_
  refine zp_call hx hb hml hown hts k_X7_107 (c_X5_eightfoldOf l (nI (yv p))) ⟨by decide, by decide⟩ rfl hl.1 [] rfl (Nat.le_of_ble_eq_true rfl) dX7_eightfold_14 ⟨by decide, by decide⟩ ?_
  refine zf_i (x' := nI (e8N (yv p))) ((mv_e8 (hy p)).trans (if_pos he)) ?_
  refine lv_istore_n (lv' := [(3, .int (nI (e8N (yv p)))), (0, .ref x), (1, .int (nI p)), (2, .int (nI p2))]) hx hb dX7_eightfold_17 rfl hl (by decide) rfl (fun ls hl => ?_)
  refine lv_iload_n hx hb dX7_eightfold_18 rfl (lv_at hl 0 rfl) ?_
  refine lv_iconst (v := (-1)) hx hb dX7_eightfold_19 (by decide) ?_
  refine lv_icmp_ne (tgt := 33) hx hb dX7_eightfold_20 (by decide) (fun h1 => ?_) (fun h1 => ?_)
  · refine lv_aload_n hx hb dX7_eightfold_33 rfl (lv_at hl 1 rfl) ?_
    refine va_get (D := D) (ci := 3) (v := .ref es) (C := RX7) (T := TX7) (N := 4) hx hb hts i_X7 hown hK hP 0 rfl rfl 1 (by decide) (hts _ u91) (fun _ h9 => h9) rfl dX7_eightfold_34 ?_
    refine lv_iload_n hx hb dX7_eightfold_37 rfl (lv_at hl 2 rfl) ?_
    refine za_lald hx hb hK hP 2 rfl p (rfl) (by omega) (by decide) dX7_eightfold_38 ?_
    refine lv_lstore (lv' := [(4, .long (edge (yv p))), (3, .int (nI (e8N (yv p)))), (0, .ref x), (1, .int (nI p)), (2, .int (nI p2))]) hx hb dX7_eightfold_39 hl (by decide) rfl (fun ls hl => ?_)
    refine lv_aload_n hx hb dX7_eightfold_41 rfl (lv_at hl 2 rfl) ?_
    refine lv_iload_n hx hb dX7_eightfold_42 rfl (lv_at hl 4 rfl) ?_
    refine lv_iload_n hx hb dX7_eightfold_43 rfl (lv_at hl 1 rfl) ?_
    refine zh_v (T := T) hx hb hml hown hts k_X7_52 (c_X7_write l D T x vs es o t yv p2 hp2 (e8N (yv p)) (e8N_lt he)) ⟨by decide, by decide⟩ rfl hl.1 [] rfl (Nat.le_of_ble_eq_true rfl) dX7_eightfold_44 ⟨Nat.le_of_ble_eq_true rfl, Nat.le_of_ble_eq_true rfl⟩ hK hP hD hS hA (ci := 3) rfl rfl rfl [0, 1, 2] [] (wr := []) rfl rfl (by decide) (by decide) (by decide) [0, 1, 2] (fun _ => [(x, .inr (3, [.ref vs, .ref es, .ref o, .ref t])), (vs, .inl (T 0, 8, .inl (fun k => nI ((up yv p2 (e8N (yv p))) k)))), (es, .inl (T 1, 8, .inr (.inl (fun k => edge ((up yv p2 (e8N (yv p))) k)))))]) (by decide) (fun _ => rfl) (fun _ H locs hP hD hS => ?_)
    have hP : va_P D zcl [(x, .inr (3, [.ref vs, .ref es, .ref o, .ref t])), (vs, .inl (T 0, 8, .inl (fun k => nI ((up yv p2 (e8N (yv p))) k)))), (es, .inl (T 1, 8, .inr (.inl (fun k => edge ((up yv p2 (e8N (yv p))) k)))))] H := hP
    have hD : va_D A [(x, .inr (3, [.ref vs, .ref es, .ref o, .ref t])), (vs, .inl (T 0, 8, .inl (fun k => nI ((up yv p2 (e8N (yv p))) k)))), (es, .inl (T 1, 8, .inr (.inl (fun k => edge ((up yv p2 (e8N (yv p))) k)))))] := hD
    refine lv_lload hx hb dX7_eightfold_47 (lv_at hl 0 rfl) ?_
    refine lv_aload_n hx hb dX7_eightfold_49 rfl (lv_at hl 2 rfl) ?_
    refine va_get (D := D) (ci := 3) (v := .ref es) (C := RX7) (T := TX7) (N := 4) hx hb hts i_X7 hown hK hP 0 rfl rfl 1 (by decide) (hts _ u91) (fun _ h9 => h9) rfl dX7_eightfold_50 ?_
    refine lv_iload_n hx hb dX7_eightfold_53 rfl (lv_at hl 4 rfl) ?_
    refine za_lald hx hb hK hP 2 rfl p2 (rfl) (by omega) (by decide) dX7_eightfold_54 ?_
    refine zf_l (x' := edge (e8N (yv p))) (by rw [up_s]) ?_
    refine zp_call hx hb hml hown hts k_X7_112 (c_X3_isTwice l (edge (yv p)) (edge (e8N (yv p)))) ⟨by decide, by decide⟩ rfl hl.1 [] rfl (Nat.le_of_ble_eq_true rfl) dX7_eightfold_55 ⟨by decide, by decide⟩ ?_
    refine zf_z (x' := true) (congrArg bI (ed_e8 (hy p) he)) ?_
    exact zh_zret () hx hb hr hlocks dX7_eightfold_58 hP hD hS (rfl) (rfl)
  · exact absurd h1 (nI_nm1 (Nat.lt_trans (e8N_lt he) (by decide)))
set_option maxRecDepth 20000 in
theorem t_X7_eightfold_big (l : Launch) (hlf : l.stackTraces = false) (D : va_G) (T : Nat → ClassId) (x vs es o t : Nat) (yv : Nat → Nat) (p : Nat) (hp : p < 8) (p2 : Nat) (hp2 : p2 < 8) (he : 65535 < eig (yv p)) (hy : ∀ k, yv k < 262144) : Tm l yX7_eightfold cX7_eightfold 6 (some FieldType.boolean) 7 D T [.ref x, .int (nI p), .int (nI p2)] [(x, .inr (3, [.ref vs, .ref es, .ref o, .ref t])), (vs, .inl (T 0, 8, .inl (fun k => nI (yv k)))), (es, .inl (T 1, 8, .inr (.inl (fun k => edge (yv k)))))] "java/lang/ArithmeticException" := by
  refine Tm.of (by decide) (Nat.le_of_ble_eq_true rfl) ?_
  intro zp ze s zm args below zmeth zc hx hb hr hml hown hts hlocks hout A hA hP hK hD hS hZ ls hl
  have hl : lv_has ls 6 [(0, .ref x), (1, .int (nI p)), (2, .int (nI p2))] := hl
  refine lv_iload_n hx hb dX7_eightfold_0 rfl (lv_at hl 1 rfl) ?_
  refine zp_callv hx hb hml hown hts k_X7_31 (c_needPlace l (nI p) (is_ok hp)) ⟨by decide, by decide⟩ rfl hl.1 [] rfl (Nat.le_of_ble_eq_true rfl) dX7_eightfold_1 ⟨Nat.le_of_ble_eq_true rfl, Nat.le_of_ble_eq_true rfl⟩ ?_
  refine lv_iload_n hx hb dX7_eightfold_4 rfl (lv_at hl 2 rfl) ?_
  refine zp_callv hx hb hml hown hts k_X7_31 (c_needPlace l (nI p2) (is_ok hp2)) ⟨by decide, by decide⟩ rfl hl.1 [] rfl (Nat.le_of_ble_eq_true rfl) dX7_eightfold_5 ⟨Nat.le_of_ble_eq_true rfl, Nat.le_of_ble_eq_true rfl⟩ ?_
  refine lv_aload_n hx hb dX7_eightfold_8 rfl (lv_at hl 0 rfl) ?_
  refine va_get (D := D) (ci := 3) (v := .ref vs) (C := RX7) (T := TX7) (N := 4) hx hb hts i_X7 hown hK hP 0 rfl rfl 0 (by decide) (hts _ u90) (fun _ h9 => h9) rfl dX7_eightfold_9 ?_
  refine lv_iload_n hx hb dX7_eightfold_12 rfl (lv_at hl 1 rfl) ?_
  refine za_iald hx hb hK hP 1 rfl p (rfl) (by omega) (by decide) dX7_eightfold_13 ?_
  refine zp_call hx hb hml hown hts k_X7_107 (c_X5_eightfoldOf l (nI (yv p))) ⟨by decide, by decide⟩ rfl hl.1 [] rfl (Nat.le_of_ble_eq_true rfl) dX7_eightfold_14 ⟨by decide, by decide⟩ ?_
  refine zf_i (x' := (-1)) ((mv_e8 (hy p)).trans (if_neg (Nat.not_le.mpr he))) ?_
  refine lv_istore_n (lv' := [(3, .int (-1)), (0, .ref x), (1, .int (nI p)), (2, .int (nI p2))]) hx hb dX7_eightfold_17 rfl hl (by decide) rfl (fun ls hl => ?_)
  refine lv_iload_n hx hb dX7_eightfold_18 rfl (lv_at hl 0 rfl) ?_
  refine lv_iconst (v := (-1)) hx hb dX7_eightfold_19 (by decide) ?_
  refine lv_icmp_ne (tgt := 33) hx hb dX7_eightfold_20 (by decide) (fun h1 => ?_) (fun h1 => ?_)
  · exact absurd h1 (by decide)
  · exact zt_throw hx hb hlf hml hown hts hlocks hout (by decide +kernel) u525 u32 (List.mem_of_getElem? (i := 4) rfl) xg_81 xn_81 xo_81 hP hD hS hZ hl.1 (by decide) (Nat.le_of_ble_eq_true rfl) dX7_eightfold_23 dX7_eightfold_26 dX7_eightfold_27 dX7_eightfold_29 dX7_eightfold_32
set_option maxRecDepth 20000 in
theorem c_X7_eighth_ok (l : Launch) (D : va_G) (T : Nat → ClassId) (x vs es o t : Nat) (yv : Nat → Nat) (p : Nat) (hp : p < 8) (p2 : Nat) (hp2 : p2 < 8) (he : eig (yv p) % 8 = 0) (hy : ∀ k, yv k < 262144) : Hm l yX7_eighth cX7_eighth 6 (some FieldType.boolean) 5 0 0 D T [.ref x, .int (nI p), .int (nI p2)] [(x, .inr (3, [.ref vs, .ref es, .ref o, .ref t])), (vs, .inl (T 0, 8, .inl (fun k => nI (yv k)))), (es, .inl (T 1, 8, .inr (.inl (fun k => edge (yv k)))))] (some (.int (bI true))) (fun _ : Unit => [(x, .inr (3, [.ref vs, .ref es, .ref o, .ref t])), (vs, .inl (T 0, 8, .inl (fun k => nI ((up yv p2 (d8N (yv p))) k)))), (es, .inl (T 1, 8, .inr (.inl (fun k => edge ((up yv p2 (d8N (yv p))) k)))))]) := by
  refine Hm.of (by decide) (Nat.le_of_ble_eq_true rfl) ?_
  intro zp ze s zm args below zmeth zc hx hb hr hml hown hin hts hlocks A hA hP hK hD hS ls hl
  have hl : lv_has ls 6 [(0, .ref x), (1, .int (nI p)), (2, .int (nI p2))] := hl
  refine lv_iload_n hx hb dX7_eighth_0 rfl (lv_at hl 1 rfl) ?_
  refine zp_callv hx hb hml hown hts k_X7_31 (c_needPlace l (nI p) (is_ok hp)) ⟨by decide, by decide⟩ rfl hl.1 [] rfl (Nat.le_of_ble_eq_true rfl) dX7_eighth_1 ⟨Nat.le_of_ble_eq_true rfl, Nat.le_of_ble_eq_true rfl⟩ ?_
  refine lv_iload_n hx hb dX7_eighth_4 rfl (lv_at hl 2 rfl) ?_
  refine zp_callv hx hb hml hown hts k_X7_31 (c_needPlace l (nI p2) (is_ok hp2)) ⟨by decide, by decide⟩ rfl hl.1 [] rfl (Nat.le_of_ble_eq_true rfl) dX7_eighth_5 ⟨Nat.le_of_ble_eq_true rfl, Nat.le_of_ble_eq_true rfl⟩ ?_
  refine lv_aload_n hx hb dX7_eighth_8 rfl (lv_at hl 0 rfl) ?_
  refine va_get (D := D) (ci := 3) (v := .ref vs) (C := RX7) (T := TX7) (N := 4) hx hb hts i_X7 hown hK hP 0 rfl rfl 0 (by decide) (hts _ u90) (fun _ h9 => h9) rfl dX7_eighth_9 ?_
  refine lv_iload_n hx hb dX7_eighth_12 rfl (lv_at hl 1 rfl) ?_
  refine za_iald hx hb hK hP 1 rfl p (rfl) (by omega) (by decide) dX7_eighth_13 ?_
  refine zp_call hx hb hml hown hts k_X7_115 (c_X5_eighthOf l (nI (yv p))) ⟨by decide, by decide⟩ rfl hl.1 [] rfl (Nat.le_of_ble_eq_true rfl) dX7_eighth_14 ⟨by decide, by decide⟩ ?_
  refine zf_i (x' := nI (d8N (yv p))) ((mv_d8 (hy p)).trans (if_pos he)) ?_
  refine lv_istore_n (lv' := [(3, .int (nI (d8N (yv p)))), (0, .ref x), (1, .int (nI p)), (2, .int (nI p2))]) hx hb dX7_eighth_17 rfl hl (by decide) rfl (fun ls hl => ?_)
  refine lv_iload_n hx hb dX7_eighth_18 rfl (lv_at hl 0 rfl) ?_
  refine lv_iconst (v := (-1)) hx hb dX7_eighth_19 (by decide) ?_
  refine lv_icmp_ne (tgt := 33) hx hb dX7_eighth_20 (by decide) (fun h1 => ?_) (fun h1 => ?_)
  · refine lv_aload_n hx hb dX7_eighth_33 rfl (lv_at hl 1 rfl) ?_
    refine va_get (D := D) (ci := 3) (v := .ref es) (C := RX7) (T := TX7) (N := 4) hx hb hts i_X7 hown hK hP 0 rfl rfl 1 (by decide) (hts _ u91) (fun _ h9 => h9) rfl dX7_eighth_34 ?_
    refine lv_iload_n hx hb dX7_eighth_37 rfl (lv_at hl 2 rfl) ?_
    refine za_lald hx hb hK hP 2 rfl p (rfl) (by omega) (by decide) dX7_eighth_38 ?_
    refine lv_lstore (lv' := [(4, .long (edge (yv p))), (3, .int (nI (d8N (yv p)))), (0, .ref x), (1, .int (nI p)), (2, .int (nI p2))]) hx hb dX7_eighth_39 hl (by decide) rfl (fun ls hl => ?_)
    refine lv_aload_n hx hb dX7_eighth_41 rfl (lv_at hl 2 rfl) ?_
    refine lv_iload_n hx hb dX7_eighth_42 rfl (lv_at hl 4 rfl) ?_
    refine lv_iload_n hx hb dX7_eighth_43 rfl (lv_at hl 1 rfl) ?_
    refine zh_v (T := T) hx hb hml hown hts k_X7_52 (c_X7_write l D T x vs es o t yv p2 hp2 (d8N (yv p)) (d8N_lt (hy p))) ⟨by decide, by decide⟩ rfl hl.1 [] rfl (Nat.le_of_ble_eq_true rfl) dX7_eighth_44 ⟨Nat.le_of_ble_eq_true rfl, Nat.le_of_ble_eq_true rfl⟩ hK hP hD hS hA (ci := 3) rfl rfl rfl [0, 1, 2] [] (wr := []) rfl rfl (by decide) (by decide) (by decide) [0, 1, 2] (fun _ => [(x, .inr (3, [.ref vs, .ref es, .ref o, .ref t])), (vs, .inl (T 0, 8, .inl (fun k => nI ((up yv p2 (d8N (yv p))) k)))), (es, .inl (T 1, 8, .inr (.inl (fun k => edge ((up yv p2 (d8N (yv p))) k)))))]) (by decide) (fun _ => rfl) (fun _ H locs hP hD hS => ?_)
    have hP : va_P D zcl [(x, .inr (3, [.ref vs, .ref es, .ref o, .ref t])), (vs, .inl (T 0, 8, .inl (fun k => nI ((up yv p2 (d8N (yv p))) k)))), (es, .inl (T 1, 8, .inr (.inl (fun k => edge ((up yv p2 (d8N (yv p))) k)))))] H := hP
    have hD : va_D A [(x, .inr (3, [.ref vs, .ref es, .ref o, .ref t])), (vs, .inl (T 0, 8, .inl (fun k => nI ((up yv p2 (d8N (yv p))) k)))), (es, .inl (T 1, 8, .inr (.inl (fun k => edge ((up yv p2 (d8N (yv p))) k)))))] := hD
    refine lv_aload_n hx hb dX7_eighth_47 rfl (lv_at hl 2 rfl) ?_
    refine va_get (D := D) (ci := 3) (v := .ref es) (C := RX7) (T := TX7) (N := 4) hx hb hts i_X7 hown hK hP 0 rfl rfl 1 (by decide) (hts _ u91) (fun _ h9 => h9) rfl dX7_eighth_48 ?_
    refine lv_iload_n hx hb dX7_eighth_51 rfl (lv_at hl 4 rfl) ?_
    refine za_lald hx hb hK hP 2 rfl p2 (rfl) (by omega) (by decide) dX7_eighth_52 ?_
    refine zf_l (x' := edge (d8N (yv p))) (by rw [up_s]) ?_
    refine lv_lload hx hb dX7_eighth_53 (lv_at hl 0 rfl) ?_
    refine zp_call hx hb hml hown hts k_X7_112 (c_X3_isTwice l (edge (d8N (yv p))) (edge (yv p))) ⟨by decide, by decide⟩ rfl hl.1 [] rfl (Nat.le_of_ble_eq_true rfl) dX7_eighth_55 ⟨by decide, by decide⟩ ?_
    refine zf_z (x' := true) (congrArg bI (ed_d8 (hy p) he)) ?_
    exact zh_zret () hx hb hr hlocks dX7_eighth_58 hP hD hS (rfl) (rfl)
  · exact absurd h1 (nI_nm1 (Nat.lt_trans (d8N_lt (hy p)) (by decide)))
set_option maxRecDepth 20000 in
theorem t_X7_eighth_odd (l : Launch) (hlf : l.stackTraces = false) (D : va_G) (T : Nat → ClassId) (x vs es o t : Nat) (yv : Nat → Nat) (p : Nat) (hp : p < 8) (p2 : Nat) (hp2 : p2 < 8) (he : ¬ eig (yv p) % 8 = 0) (hy : ∀ k, yv k < 262144) : Tm l yX7_eighth cX7_eighth 6 (some FieldType.boolean) 7 D T [.ref x, .int (nI p), .int (nI p2)] [(x, .inr (3, [.ref vs, .ref es, .ref o, .ref t])), (vs, .inl (T 0, 8, .inl (fun k => nI (yv k)))), (es, .inl (T 1, 8, .inr (.inl (fun k => edge (yv k)))))] "java/lang/ArithmeticException" := by
  refine Tm.of (by decide) (Nat.le_of_ble_eq_true rfl) ?_
  intro zp ze s zm args below zmeth zc hx hb hr hml hown hts hlocks hout A hA hP hK hD hS hZ ls hl
  have hl : lv_has ls 6 [(0, .ref x), (1, .int (nI p)), (2, .int (nI p2))] := hl
  refine lv_iload_n hx hb dX7_eighth_0 rfl (lv_at hl 1 rfl) ?_
  refine zp_callv hx hb hml hown hts k_X7_31 (c_needPlace l (nI p) (is_ok hp)) ⟨by decide, by decide⟩ rfl hl.1 [] rfl (Nat.le_of_ble_eq_true rfl) dX7_eighth_1 ⟨Nat.le_of_ble_eq_true rfl, Nat.le_of_ble_eq_true rfl⟩ ?_
  refine lv_iload_n hx hb dX7_eighth_4 rfl (lv_at hl 2 rfl) ?_
  refine zp_callv hx hb hml hown hts k_X7_31 (c_needPlace l (nI p2) (is_ok hp2)) ⟨by decide, by decide⟩ rfl hl.1 [] rfl (Nat.le_of_ble_eq_true rfl) dX7_eighth_5 ⟨Nat.le_of_ble_eq_true rfl, Nat.le_of_ble_eq_true rfl⟩ ?_
  refine lv_aload_n hx hb dX7_eighth_8 rfl (lv_at hl 0 rfl) ?_
  refine va_get (D := D) (ci := 3) (v := .ref vs) (C := RX7) (T := TX7) (N := 4) hx hb hts i_X7 hown hK hP 0 rfl rfl 0 (by decide) (hts _ u90) (fun _ h9 => h9) rfl dX7_eighth_9 ?_
  refine lv_iload_n hx hb dX7_eighth_12 rfl (lv_at hl 1 rfl) ?_
  refine za_iald hx hb hK hP 1 rfl p (rfl) (by omega) (by decide) dX7_eighth_13 ?_
  refine zp_call hx hb hml hown hts k_X7_115 (c_X5_eighthOf l (nI (yv p))) ⟨by decide, by decide⟩ rfl hl.1 [] rfl (Nat.le_of_ble_eq_true rfl) dX7_eighth_14 ⟨by decide, by decide⟩ ?_
  refine zf_i (x' := (-1)) ((mv_d8 (hy p)).trans (if_neg he)) ?_
  refine lv_istore_n (lv' := [(3, .int (-1)), (0, .ref x), (1, .int (nI p)), (2, .int (nI p2))]) hx hb dX7_eighth_17 rfl hl (by decide) rfl (fun ls hl => ?_)
  refine lv_iload_n hx hb dX7_eighth_18 rfl (lv_at hl 0 rfl) ?_
  refine lv_iconst (v := (-1)) hx hb dX7_eighth_19 (by decide) ?_
  refine lv_icmp_ne (tgt := 33) hx hb dX7_eighth_20 (by decide) (fun h1 => ?_) (fun h1 => ?_)
  · exact absurd h1 (by decide)
  · exact zt_throw hx hb hlf hml hown hts hlocks hout (by decide +kernel) u525 u32 (List.mem_of_getElem? (i := 5) rfl) xg_81 xn_81 xo_81 hP hD hS hZ hl.1 (by decide) (Nat.le_of_ble_eq_true rfl) dX7_eighth_23 dX7_eighth_26 dX7_eighth_27 dX7_eighth_29 dX7_eighth_32
set_option maxRecDepth 20000 in
theorem t_X7_add_no (l : Launch) (hlf : l.stackTraces = false) (D : va_G) (T : Nat → ClassId) (x vs es o t : Nat) (yv : Nat → Nat) (x0 y0 z0 : Int32) (hx0 : (m_X8_is x0 && m_X8_is y0 && m_X8_is z0) = false) : Tm l yX7_add cX7_add 9 (some FieldType.boolean) 7 D T [.ref x, .int x0, .int y0, .int z0] [(x, .inr (3, [.ref vs, .ref es, .ref o, .ref t])), (vs, .inl (T 0, 8, .inl (fun k => nI (yv k)))), (es, .inl (T 1, 8, .inr (.inl (fun k => edge (yv k)))))] "java/lang/IndexOutOfBoundsException" := by
  refine Tm.of (by decide) (Nat.le_of_ble_eq_true rfl) ?_
  intro zp ze s zm args below zmeth zc hx hb hr hml hown hts hlocks hout A hA hP hK hD hS hZ ls hl
  have hl : lv_has ls 9 [(0, .ref x), (1, .int x0), (2, .int y0), (3, .int z0)] := hl
  by_cases q1 : m_X8_is x0 = true
  · refine lv_iload_n hx hb dX7_add_0 rfl (lv_at hl 1 rfl) ?_
    refine zp_callv hx hb hml hown hts k_X7_31 (c_needPlace l x0 q1) ⟨by decide, by decide⟩ rfl hl.1 [] rfl (Nat.le_of_ble_eq_true rfl) dX7_add_1 ⟨Nat.le_of_ble_eq_true rfl, Nat.le_of_ble_eq_true rfl⟩ ?_
    by_cases q2 : m_X8_is y0 = true
    · refine lv_iload_n hx hb dX7_add_4 rfl (lv_at hl 2 rfl) ?_
      refine zp_callv hx hb hml hown hts k_X7_31 (c_needPlace l y0 q2) ⟨by decide, by decide⟩ rfl hl.1 [] rfl (Nat.le_of_ble_eq_true rfl) dX7_add_5 ⟨Nat.le_of_ble_eq_true rfl, Nat.le_of_ble_eq_true rfl⟩ ?_
      refine lv_iload_n hx hb dX7_add_8 rfl (lv_at hl 3 rfl) ?_
      refine zt_s (T := T) hx hb hml hown hts k_X7_31 (t_needPlace l hlf D T z0 (is_3 hx0 q1 q2)) ⟨by decide, by decide⟩ rfl hl.1 [] rfl (Nat.le_of_ble_eq_true rfl) dX7_add_9 ⟨Nat.le_of_ble_eq_true rfl, Nat.le_of_ble_eq_true rfl⟩ hK hP hD hS hA hZ [] [0, 1, 2] (wr := [(x, .inr (3, [.ref vs, .ref es, .ref o, .ref t])), (vs, .inl (T 0, 8, .inl (fun k => nI (yv k)))), (es, .inl (T 1, 8, .inr (.inl (fun k => edge (yv k)))))]) rfl rfl (by decide) (by decide) (by decide) [0, 1, 2] (by decide) rfl (fun ce q9 H locs hP hD hS hce hcv hcl => ?_)
      exact zt_out hlocks hout hP hD hS hce hcv hcl
    · refine lv_iload_n hx hb dX7_add_4 rfl (lv_at hl 2 rfl) ?_
      refine zt_s (T := T) hx hb hml hown hts k_X7_31 (t_needPlace l hlf D T y0 (is_f q2)) ⟨by decide, by decide⟩ rfl hl.1 [] rfl (Nat.le_of_ble_eq_true rfl) dX7_add_5 ⟨Nat.le_of_ble_eq_true rfl, Nat.le_of_ble_eq_true rfl⟩ hK hP hD hS hA hZ [] [0, 1, 2] (wr := [(x, .inr (3, [.ref vs, .ref es, .ref o, .ref t])), (vs, .inl (T 0, 8, .inl (fun k => nI (yv k)))), (es, .inl (T 1, 8, .inr (.inl (fun k => edge (yv k)))))]) rfl rfl (by decide) (by decide) (by decide) [0, 1, 2] (by decide) rfl (fun ce q9 H locs hP hD hS hce hcv hcl => ?_)
      exact zt_out hlocks hout hP hD hS hce hcv hcl
  · refine lv_iload_n hx hb dX7_add_0 rfl (lv_at hl 1 rfl) ?_
    refine zt_s (T := T) hx hb hml hown hts k_X7_31 (t_needPlace l hlf D T x0 (is_f q1)) ⟨by decide, by decide⟩ rfl hl.1 [] rfl (Nat.le_of_ble_eq_true rfl) dX7_add_1 ⟨Nat.le_of_ble_eq_true rfl, Nat.le_of_ble_eq_true rfl⟩ hK hP hD hS hA hZ [] [0, 1, 2] (wr := [(x, .inr (3, [.ref vs, .ref es, .ref o, .ref t])), (vs, .inl (T 0, 8, .inl (fun k => nI (yv k)))), (es, .inl (T 1, 8, .inr (.inl (fun k => edge (yv k)))))]) rfl rfl (by decide) (by decide) (by decide) [0, 1, 2] (by decide) rfl (fun ce q9 H locs hP hD hS hce hcv hcl => ?_)
    exact zt_out hlocks hout hP hD hS hce hcv hcl
set_option maxRecDepth 20000 in
theorem c_X7_add_ok (l : Launch) (D : va_G) (T : Nat → ClassId) (x vs es o t : Nat) (yv : Nat → Nat) (p : Nat) (hp : p < 8) (p2 : Nat) (hp2 : p2 < 8) (p3 : Nat) (hp3 : p3 < 8) (hv1 : isB (yv p) = false) (hv2 : isB (yv p2) = false) (hc1 : 0 < yv p / 4) (hc2 : 0 < yv p2 / 4) (hr0 : rdC (eig (yv p) + eig (yv p2)) ≤ 65535) (hy : ∀ k, yv k < 262144) : Hm l yX7_add cX7_add 9 (some FieldType.boolean) 5 0 0 D T [.ref x, .int (nI p), .int (nI p2), .int (nI p3)] [(x, .inr (3, [.ref vs, .ref es, .ref o, .ref t])), (vs, .inl (T 0, 8, .inl (fun k => nI (yv k)))), (es, .inl (T 1, 8, .inr (.inl (fun k => edge (yv k)))))] (some (.int (bI true))) (fun _ : Unit => [(x, .inr (3, [.ref vs, .ref es, .ref o, .ref t])), (vs, .inl (T 0, 8, .inl (fun k => nI ((up yv p3 (rdV (eig (yv p) + eig (yv p2)) false)) k)))), (es, .inl (T 1, 8, .inr (.inl (fun k => edge ((up yv p3 (rdV (eig (yv p) + eig (yv p2)) false)) k)))))]) := by
  refine Hm.of (by decide) (Nat.le_of_ble_eq_true rfl) ?_
  intro zp ze s zm args below zmeth zc hx hb hr hml hown hin hts hlocks A hA hP hK hD hS ls hl
  have hl : lv_has ls 9 [(0, .ref x), (1, .int (nI p)), (2, .int (nI p2)), (3, .int (nI p3))] := hl
  refine lv_iload_n hx hb dX7_add_0 rfl (lv_at hl 1 rfl) ?_
  refine zp_callv hx hb hml hown hts k_X7_31 (c_needPlace l (nI p) (is_ok hp)) ⟨by decide, by decide⟩ rfl hl.1 [] rfl (Nat.le_of_ble_eq_true rfl) dX7_add_1 ⟨Nat.le_of_ble_eq_true rfl, Nat.le_of_ble_eq_true rfl⟩ ?_
  refine lv_iload_n hx hb dX7_add_4 rfl (lv_at hl 2 rfl) ?_
  refine zp_callv hx hb hml hown hts k_X7_31 (c_needPlace l (nI p2) (is_ok hp2)) ⟨by decide, by decide⟩ rfl hl.1 [] rfl (Nat.le_of_ble_eq_true rfl) dX7_add_5 ⟨Nat.le_of_ble_eq_true rfl, Nat.le_of_ble_eq_true rfl⟩ ?_
  refine lv_iload_n hx hb dX7_add_8 rfl (lv_at hl 3 rfl) ?_
  refine zp_callv hx hb hml hown hts k_X7_31 (c_needPlace l (nI p3) (is_ok hp3)) ⟨by decide, by decide⟩ rfl hl.1 [] rfl (Nat.le_of_ble_eq_true rfl) dX7_add_9 ⟨Nat.le_of_ble_eq_true rfl, Nat.le_of_ble_eq_true rfl⟩ ?_
  refine lv_aload_n hx hb dX7_add_12 rfl (lv_at hl 0 rfl) ?_
  refine va_get (D := D) (ci := 3) (v := .ref vs) (C := RX7) (T := TX7) (N := 4) hx hb hts i_X7 hown hK hP 0 rfl rfl 0 (by decide) (hts _ u90) (fun _ h9 => h9) rfl dX7_add_13 ?_
  refine lv_iload_n hx hb dX7_add_16 rfl (lv_at hl 1 rfl) ?_
  refine za_iald hx hb hK hP 1 rfl p (rfl) (by omega) (by decide) dX7_add_17 ?_
  refine zp_callv hx hb hml hown hts k_X7_142 (c_needAboveZero l (yv p) (hy p) ⟨hv1, Nat.pos_iff_ne_zero.mp hc1⟩) ⟨by decide, by decide⟩ rfl hl.1 [] rfl (Nat.le_of_ble_eq_true rfl) dX7_add_18 ⟨Nat.le_of_ble_eq_true rfl, Nat.le_of_ble_eq_true rfl⟩ ?_
  refine lv_aload_n hx hb dX7_add_21 rfl (lv_at hl 0 rfl) ?_
  refine va_get (D := D) (ci := 3) (v := .ref vs) (C := RX7) (T := TX7) (N := 4) hx hb hts i_X7 hown hK hP 0 rfl rfl 0 (by decide) (hts _ u90) (fun _ h9 => h9) rfl dX7_add_22 ?_
  refine lv_iload_n hx hb dX7_add_25 rfl (lv_at hl 2 rfl) ?_
  refine za_iald hx hb hK hP 1 rfl p2 (rfl) (by omega) (by decide) dX7_add_26 ?_
  refine zp_callv hx hb hml hown hts k_X7_142 (c_needAboveZero l (yv p2) (hy p2) ⟨hv2, Nat.pos_iff_ne_zero.mp hc2⟩) ⟨by decide, by decide⟩ rfl hl.1 [] rfl (Nat.le_of_ble_eq_true rfl) dX7_add_27 ⟨Nat.le_of_ble_eq_true rfl, Nat.le_of_ble_eq_true rfl⟩ ?_
  refine lv_aload_n hx hb dX7_add_30 rfl (lv_at hl 0 rfl) ?_
  refine va_get (D := D) (ci := 3) (v := .ref vs) (C := RX7) (T := TX7) (N := 4) hx hb hts i_X7 hown hK hP 0 rfl rfl 0 (by decide) (hts _ u90) (fun _ h9 => h9) rfl dX7_add_31 ?_
  refine lv_iload_n hx hb dX7_add_34 rfl (lv_at hl 1 rfl) ?_
  refine za_iald hx hb hK hP 1 rfl p (rfl) (by omega) (by decide) dX7_add_35 ?_
  refine lv_aload_n hx hb dX7_add_36 rfl (lv_at hl 0 rfl) ?_
  refine va_get (D := D) (ci := 3) (v := .ref vs) (C := RX7) (T := TX7) (N := 4) hx hb hts i_X7 hown hK hP 0 rfl rfl 0 (by decide) (hts _ u90) (fun _ h9 => h9) rfl dX7_add_37 ?_
  refine lv_iload_n hx hb dX7_add_40 rfl (lv_at hl 2 rfl) ?_
  refine za_iald hx hb hK hP 1 rfl p2 (rfl) (by omega) (by decide) dX7_add_41 ?_
  refine zp_call hx hb hml hown hts k_X7_145 (c_X5_sumOf l (nI (yv p)) (nI (yv p2))) ⟨by decide, by decide⟩ rfl hl.1 [] rfl (Nat.le_of_ble_eq_true rfl) dX7_add_42 ⟨by decide, by decide⟩ ?_
  refine zf_i (x' := nI (rdV (eig (yv p) + eig (yv p2)) false)) ((mv_sum (hy p) (hy p2)).trans (if_pos hr0)) ?_
  refine lv_istore (lv' := [(4, .int (nI (rdV (eig (yv p) + eig (yv p2)) false))), (0, .ref x), (1, .int (nI p)), (2, .int (nI p2)), (3, .int (nI p3))]) hx hb dX7_add_45 hl (by decide) rfl (fun ls hl => ?_)
  refine lv_iload hx hb dX7_add_47 (lv_at hl 0 rfl) ?_
  refine lv_iconst (v := (-1)) hx hb dX7_add_49 (by decide) ?_
  refine lv_icmp_ne (tgt := 63) hx hb dX7_add_50 (by decide) (fun h1 => ?_) (fun h1 => ?_)
  · refine lv_aload_n hx hb dX7_add_63 rfl (lv_at hl 1 rfl) ?_
    refine va_get (D := D) (ci := 3) (v := .ref es) (C := RX7) (T := TX7) (N := 4) hx hb hts i_X7 hown hK hP 0 rfl rfl 1 (by decide) (hts _ u91) (fun _ h9 => h9) rfl dX7_add_64 ?_
    refine lv_iload_n hx hb dX7_add_67 rfl (lv_at hl 2 rfl) ?_
    refine za_lald hx hb hK hP 2 rfl p (rfl) (by omega) (by decide) dX7_add_68 ?_
    refine lv_lstore (lv' := [(5, .long (edge (yv p))), (4, .int (nI (rdV (eig (yv p) + eig (yv p2)) false))), (0, .ref x), (1, .int (nI p)), (2, .int (nI p2)), (3, .int (nI p3))]) hx hb dX7_add_69 hl (by decide) rfl (fun ls hl => ?_)
    refine lv_aload_n hx hb dX7_add_71 rfl (lv_at hl 2 rfl) ?_
    refine va_get (D := D) (ci := 3) (v := .ref es) (C := RX7) (T := TX7) (N := 4) hx hb hts i_X7 hown hK hP 0 rfl rfl 1 (by decide) (hts _ u91) (fun _ h9 => h9) rfl dX7_add_72 ?_
    refine lv_iload_n hx hb dX7_add_75 rfl (lv_at hl 4 rfl) ?_
    refine za_lald hx hb hK hP 2 rfl p2 (rfl) (by omega) (by decide) dX7_add_76 ?_
    refine lv_lstore (lv' := [(7, .long (edge (yv p2))), (5, .long (edge (yv p))), (4, .int (nI (rdV (eig (yv p) + eig (yv p2)) false))), (0, .ref x), (1, .int (nI p)), (2, .int (nI p2)), (3, .int (nI p3))]) hx hb dX7_add_77 hl (by decide) rfl (fun ls hl => ?_)
    refine lv_aload_n hx hb dX7_add_79 rfl (lv_at hl 3 rfl) ?_
    refine lv_iload_n hx hb dX7_add_80 rfl (lv_at hl 6 rfl) ?_
    refine lv_iload hx hb dX7_add_81 (lv_at hl 2 rfl) ?_
    refine zh_v (T := T) hx hb hml hown hts k_X7_52 (c_X7_write l D T x vs es o t yv p3 hp3 (rdV (eig (yv p) + eig (yv p2)) false) (rdV_lt hr0 _)) ⟨by decide, by decide⟩ rfl hl.1 [] rfl (Nat.le_of_ble_eq_true rfl) dX7_add_83 ⟨Nat.le_of_ble_eq_true rfl, Nat.le_of_ble_eq_true rfl⟩ hK hP hD hS hA (ci := 3) rfl rfl rfl [0, 1, 2] [] (wr := []) rfl rfl (by decide) (by decide) (by decide) [0, 1, 2] (fun _ => [(x, .inr (3, [.ref vs, .ref es, .ref o, .ref t])), (vs, .inl (T 0, 8, .inl (fun k => nI ((up yv p3 (rdV (eig (yv p) + eig (yv p2)) false)) k)))), (es, .inl (T 1, 8, .inr (.inl (fun k => edge ((up yv p3 (rdV (eig (yv p) + eig (yv p2)) false)) k)))))]) (by decide) (fun _ => rfl) (fun _ H locs hP hD hS => ?_)
    have hP : va_P D zcl [(x, .inr (3, [.ref vs, .ref es, .ref o, .ref t])), (vs, .inl (T 0, 8, .inl (fun k => nI ((up yv p3 (rdV (eig (yv p) + eig (yv p2)) false)) k)))), (es, .inl (T 1, 8, .inr (.inl (fun k => edge ((up yv p3 (rdV (eig (yv p) + eig (yv p2)) false)) k)))))] H := hP
    have hD : va_D A [(x, .inr (3, [.ref vs, .ref es, .ref o, .ref t])), (vs, .inl (T 0, 8, .inl (fun k => nI ((up yv p3 (rdV (eig (yv p) + eig (yv p2)) false)) k)))), (es, .inl (T 1, 8, .inr (.inl (fun k => edge ((up yv p3 (rdV (eig (yv p) + eig (yv p2)) false)) k)))))] := hD
    refine lv_aload_n hx hb dX7_add_86 rfl (lv_at hl 3 rfl) ?_
    refine va_get (D := D) (ci := 3) (v := .ref es) (C := RX7) (T := TX7) (N := 4) hx hb hts i_X7 hown hK hP 0 rfl rfl 1 (by decide) (hts _ u91) (fun _ h9 => h9) rfl dX7_add_87 ?_
    refine lv_iload_n hx hb dX7_add_90 rfl (lv_at hl 6 rfl) ?_
    refine za_lald hx hb hK hP 2 rfl p3 (rfl) (by omega) (by decide) dX7_add_91 ?_
    refine zf_l (x' := edge (rdV (eig (yv p) + eig (yv p2)) false)) (by rw [up_s]) ?_
    refine lv_lload hx hb dX7_add_92 (lv_at hl 1 rfl) ?_
    refine lv_lload hx hb dX7_add_94 (lv_at hl 0 rfl) ?_
    refine zp_call hx hb hml hown hts k_X7_150 (c_X3_isLessThanSum l (edge (rdV (eig (yv p) + eig (yv p2)) false)) (edge (yv p)) (edge (yv p2))) ⟨by decide, by decide⟩ rfl hl.1 [] rfl (Nat.le_of_ble_eq_true rfl) dX7_add_96 ⟨by decide, by decide⟩ ?_
    refine zf_z (x' := true) (congrArg bI (ed_lts (hy p) (hy p2) hv1 hv2 hc1 hc2 hr0)) ?_
    exact zh_zret () hx hb hr hlocks dX7_add_99 hP hD hS (rfl) (rfl)
  · exact absurd h1 (nI_nm1 (Nat.lt_trans (rdV_lt hr0 _) (by decide)))
set_option maxRecDepth 20000 in
theorem t_X7_add_big (l : Launch) (hlf : l.stackTraces = false) (D : va_G) (T : Nat → ClassId) (x vs es o t : Nat) (yv : Nat → Nat) (p : Nat) (hp : p < 8) (p2 : Nat) (hp2 : p2 < 8) (p3 : Nat) (hp3 : p3 < 8) (hv1 : isB (yv p) = false) (hv2 : isB (yv p2) = false) (hc1 : 0 < yv p / 4) (hc2 : 0 < yv p2 / 4) (hr0 : 65535 < rdC (eig (yv p) + eig (yv p2))) (hy : ∀ k, yv k < 262144) : Tm l yX7_add cX7_add 9 (some FieldType.boolean) 7 D T [.ref x, .int (nI p), .int (nI p2), .int (nI p3)] [(x, .inr (3, [.ref vs, .ref es, .ref o, .ref t])), (vs, .inl (T 0, 8, .inl (fun k => nI (yv k)))), (es, .inl (T 1, 8, .inr (.inl (fun k => edge (yv k)))))] "java/lang/ArithmeticException" := by
  refine Tm.of (by decide) (Nat.le_of_ble_eq_true rfl) ?_
  intro zp ze s zm args below zmeth zc hx hb hr hml hown hts hlocks hout A hA hP hK hD hS hZ ls hl
  have hl : lv_has ls 9 [(0, .ref x), (1, .int (nI p)), (2, .int (nI p2)), (3, .int (nI p3))] := hl
  refine lv_iload_n hx hb dX7_add_0 rfl (lv_at hl 1 rfl) ?_
  refine zp_callv hx hb hml hown hts k_X7_31 (c_needPlace l (nI p) (is_ok hp)) ⟨by decide, by decide⟩ rfl hl.1 [] rfl (Nat.le_of_ble_eq_true rfl) dX7_add_1 ⟨Nat.le_of_ble_eq_true rfl, Nat.le_of_ble_eq_true rfl⟩ ?_
  refine lv_iload_n hx hb dX7_add_4 rfl (lv_at hl 2 rfl) ?_
  refine zp_callv hx hb hml hown hts k_X7_31 (c_needPlace l (nI p2) (is_ok hp2)) ⟨by decide, by decide⟩ rfl hl.1 [] rfl (Nat.le_of_ble_eq_true rfl) dX7_add_5 ⟨Nat.le_of_ble_eq_true rfl, Nat.le_of_ble_eq_true rfl⟩ ?_
  refine lv_iload_n hx hb dX7_add_8 rfl (lv_at hl 3 rfl) ?_
  refine zp_callv hx hb hml hown hts k_X7_31 (c_needPlace l (nI p3) (is_ok hp3)) ⟨by decide, by decide⟩ rfl hl.1 [] rfl (Nat.le_of_ble_eq_true rfl) dX7_add_9 ⟨Nat.le_of_ble_eq_true rfl, Nat.le_of_ble_eq_true rfl⟩ ?_
  refine lv_aload_n hx hb dX7_add_12 rfl (lv_at hl 0 rfl) ?_
  refine va_get (D := D) (ci := 3) (v := .ref vs) (C := RX7) (T := TX7) (N := 4) hx hb hts i_X7 hown hK hP 0 rfl rfl 0 (by decide) (hts _ u90) (fun _ h9 => h9) rfl dX7_add_13 ?_
  refine lv_iload_n hx hb dX7_add_16 rfl (lv_at hl 1 rfl) ?_
  refine za_iald hx hb hK hP 1 rfl p (rfl) (by omega) (by decide) dX7_add_17 ?_
  refine zp_callv hx hb hml hown hts k_X7_142 (c_needAboveZero l (yv p) (hy p) ⟨hv1, Nat.pos_iff_ne_zero.mp hc1⟩) ⟨by decide, by decide⟩ rfl hl.1 [] rfl (Nat.le_of_ble_eq_true rfl) dX7_add_18 ⟨Nat.le_of_ble_eq_true rfl, Nat.le_of_ble_eq_true rfl⟩ ?_
  refine lv_aload_n hx hb dX7_add_21 rfl (lv_at hl 0 rfl) ?_
  refine va_get (D := D) (ci := 3) (v := .ref vs) (C := RX7) (T := TX7) (N := 4) hx hb hts i_X7 hown hK hP 0 rfl rfl 0 (by decide) (hts _ u90) (fun _ h9 => h9) rfl dX7_add_22 ?_
  refine lv_iload_n hx hb dX7_add_25 rfl (lv_at hl 2 rfl) ?_
  refine za_iald hx hb hK hP 1 rfl p2 (rfl) (by omega) (by decide) dX7_add_26 ?_
  refine zp_callv hx hb hml hown hts k_X7_142 (c_needAboveZero l (yv p2) (hy p2) ⟨hv2, Nat.pos_iff_ne_zero.mp hc2⟩) ⟨by decide, by decide⟩ rfl hl.1 [] rfl (Nat.le_of_ble_eq_true rfl) dX7_add_27 ⟨Nat.le_of_ble_eq_true rfl, Nat.le_of_ble_eq_true rfl⟩ ?_
  refine lv_aload_n hx hb dX7_add_30 rfl (lv_at hl 0 rfl) ?_
  refine va_get (D := D) (ci := 3) (v := .ref vs) (C := RX7) (T := TX7) (N := 4) hx hb hts i_X7 hown hK hP 0 rfl rfl 0 (by decide) (hts _ u90) (fun _ h9 => h9) rfl dX7_add_31 ?_
  refine lv_iload_n hx hb dX7_add_34 rfl (lv_at hl 1 rfl) ?_
  refine za_iald hx hb hK hP 1 rfl p (rfl) (by omega) (by decide) dX7_add_35 ?_
  refine lv_aload_n hx hb dX7_add_36 rfl (lv_at hl 0 rfl) ?_
  refine va_get (D := D) (ci := 3) (v := .ref vs) (C := RX7) (T := TX7) (N := 4) hx hb hts i_X7 hown hK hP 0 rfl rfl 0 (by decide) (hts _ u90) (fun _ h9 => h9) rfl dX7_add_37 ?_
  refine lv_iload_n hx hb dX7_add_40 rfl (lv_at hl 2 rfl) ?_
  refine za_iald hx hb hK hP 1 rfl p2 (rfl) (by omega) (by decide) dX7_add_41 ?_
  refine zp_call hx hb hml hown hts k_X7_145 (c_X5_sumOf l (nI (yv p)) (nI (yv p2))) ⟨by decide, by decide⟩ rfl hl.1 [] rfl (Nat.le_of_ble_eq_true rfl) dX7_add_42 ⟨by decide, by decide⟩ ?_
  refine zf_i (x' := (-1)) ((mv_sum (hy p) (hy p2)).trans (if_neg (Nat.not_le.mpr hr0))) ?_
  refine lv_istore (lv' := [(4, .int (-1)), (0, .ref x), (1, .int (nI p)), (2, .int (nI p2)), (3, .int (nI p3))]) hx hb dX7_add_45 hl (by decide) rfl (fun ls hl => ?_)
  refine lv_iload hx hb dX7_add_47 (lv_at hl 0 rfl) ?_
  refine lv_iconst (v := (-1)) hx hb dX7_add_49 (by decide) ?_
  refine lv_icmp_ne (tgt := 63) hx hb dX7_add_50 (by decide) (fun h1 => ?_) (fun h1 => ?_)
  · exact absurd h1 (by decide)
  · exact zt_throw hx hb hlf hml hown hts hlocks hout (by decide +kernel) u525 u32 (List.mem_of_getElem? (i := 8) rfl) xg_81 xn_81 xo_81 hP hD hS hZ hl.1 (by decide) (Nat.le_of_ble_eq_true rfl) dX7_add_53 dX7_add_56 dX7_add_57 dX7_add_59 dX7_add_62
set_option maxRecDepth 20000 in
theorem t_X7_add_zero (l : Launch) (hlf : l.stackTraces = false) (D : va_G) (T : Nat → ClassId) (x vs es o t : Nat) (yv : Nat → Nat) (p : Nat) (hp : p < 8) (p2 : Nat) (hp2 : p2 < 8) (p3 : Nat) (hp3 : p3 < 8) (hv0 : ¬ (isB (yv p) = false ∧ isB (yv p2) = false ∧ ¬ yv p / 4 = 0 ∧ ¬ yv p2 / 4 = 0)) (hy : ∀ k, yv k < 262144) : Tm l yX7_add cX7_add 9 (some FieldType.boolean) 7 D T [.ref x, .int (nI p), .int (nI p2), .int (nI p3)] [(x, .inr (3, [.ref vs, .ref es, .ref o, .ref t])), (vs, .inl (T 0, 8, .inl (fun k => nI (yv k)))), (es, .inl (T 1, 8, .inr (.inl (fun k => edge (yv k)))))] "java/lang/IllegalArgumentException" := by
  refine Tm.of (by decide) (Nat.le_of_ble_eq_true rfl) ?_
  intro zp ze s zm args below zmeth zc hx hb hr hml hown hts hlocks hout A hA hP hK hD hS hZ ls hl
  have hl : lv_has ls 9 [(0, .ref x), (1, .int (nI p)), (2, .int (nI p2)), (3, .int (nI p3))] := hl
  refine lv_iload_n hx hb dX7_add_0 rfl (lv_at hl 1 rfl) ?_
  refine zp_callv hx hb hml hown hts k_X7_31 (c_needPlace l (nI p) (is_ok hp)) ⟨by decide, by decide⟩ rfl hl.1 [] rfl (Nat.le_of_ble_eq_true rfl) dX7_add_1 ⟨Nat.le_of_ble_eq_true rfl, Nat.le_of_ble_eq_true rfl⟩ ?_
  refine lv_iload_n hx hb dX7_add_4 rfl (lv_at hl 2 rfl) ?_
  refine zp_callv hx hb hml hown hts k_X7_31 (c_needPlace l (nI p2) (is_ok hp2)) ⟨by decide, by decide⟩ rfl hl.1 [] rfl (Nat.le_of_ble_eq_true rfl) dX7_add_5 ⟨Nat.le_of_ble_eq_true rfl, Nat.le_of_ble_eq_true rfl⟩ ?_
  refine lv_iload_n hx hb dX7_add_8 rfl (lv_at hl 3 rfl) ?_
  refine zp_callv hx hb hml hown hts k_X7_31 (c_needPlace l (nI p3) (is_ok hp3)) ⟨by decide, by decide⟩ rfl hl.1 [] rfl (Nat.le_of_ble_eq_true rfl) dX7_add_9 ⟨Nat.le_of_ble_eq_true rfl, Nat.le_of_ble_eq_true rfl⟩ ?_
  by_cases q1 : isB (yv p) = false ∧ ¬ yv p / 4 = 0
  · refine lv_aload_n hx hb dX7_add_12 rfl (lv_at hl 0 rfl) ?_
    refine va_get (D := D) (ci := 3) (v := .ref vs) (C := RX7) (T := TX7) (N := 4) hx hb hts i_X7 hown hK hP 0 rfl rfl 0 (by decide) (hts _ u90) (fun _ h9 => h9) rfl dX7_add_13 ?_
    refine lv_iload_n hx hb dX7_add_16 rfl (lv_at hl 1 rfl) ?_
    refine za_iald hx hb hK hP 1 rfl p (rfl) (by omega) (by decide) dX7_add_17 ?_
    refine zp_callv hx hb hml hown hts k_X7_142 (c_needAboveZero l (yv p) (hy p) q1) ⟨by decide, by decide⟩ rfl hl.1 [] rfl (Nat.le_of_ble_eq_true rfl) dX7_add_18 ⟨Nat.le_of_ble_eq_true rfl, Nat.le_of_ble_eq_true rfl⟩ ?_
    refine lv_aload_n hx hb dX7_add_21 rfl (lv_at hl 0 rfl) ?_
    refine va_get (D := D) (ci := 3) (v := .ref vs) (C := RX7) (T := TX7) (N := 4) hx hb hts i_X7 hown hK hP 0 rfl rfl 0 (by decide) (hts _ u90) (fun _ h9 => h9) rfl dX7_add_22 ?_
    refine lv_iload_n hx hb dX7_add_25 rfl (lv_at hl 2 rfl) ?_
    refine za_iald hx hb hK hP 1 rfl p2 (rfl) (by omega) (by decide) dX7_add_26 ?_
    refine zt_s (T := T) hx hb hml hown hts k_X7_142 (t_needAboveZero l hlf D T (yv p2) (hy p2) (fun q => hv0 ⟨q1.1, q.1, q1.2, q.2⟩)) ⟨by decide, by decide⟩ rfl hl.1 [] rfl (Nat.le_of_ble_eq_true rfl) dX7_add_27 ⟨Nat.le_of_ble_eq_true rfl, Nat.le_of_ble_eq_true rfl⟩ hK hP hD hS hA hZ [] [0, 1, 2] (wr := [(x, .inr (3, [.ref vs, .ref es, .ref o, .ref t])), (vs, .inl (T 0, 8, .inl (fun k => nI (yv k)))), (es, .inl (T 1, 8, .inr (.inl (fun k => edge (yv k)))))]) rfl rfl (by decide) (by decide) (by decide) [0, 1, 2] (by decide) rfl (fun ce q9 H locs hP hD hS hce hcv hcl => ?_)
    exact zt_out hlocks hout hP hD hS hce hcv hcl
  · refine lv_aload_n hx hb dX7_add_12 rfl (lv_at hl 0 rfl) ?_
    refine va_get (D := D) (ci := 3) (v := .ref vs) (C := RX7) (T := TX7) (N := 4) hx hb hts i_X7 hown hK hP 0 rfl rfl 0 (by decide) (hts _ u90) (fun _ h9 => h9) rfl dX7_add_13 ?_
    refine lv_iload_n hx hb dX7_add_16 rfl (lv_at hl 1 rfl) ?_
    refine za_iald hx hb hK hP 1 rfl p (rfl) (by omega) (by decide) dX7_add_17 ?_
    refine zt_s (T := T) hx hb hml hown hts k_X7_142 (t_needAboveZero l hlf D T (yv p) (hy p) q1) ⟨by decide, by decide⟩ rfl hl.1 [] rfl (Nat.le_of_ble_eq_true rfl) dX7_add_18 ⟨Nat.le_of_ble_eq_true rfl, Nat.le_of_ble_eq_true rfl⟩ hK hP hD hS hA hZ [] [0, 1, 2] (wr := [(x, .inr (3, [.ref vs, .ref es, .ref o, .ref t])), (vs, .inl (T 0, 8, .inl (fun k => nI (yv k)))), (es, .inl (T 1, 8, .inr (.inl (fun k => edge (yv k)))))]) rfl rfl (by decide) (by decide) (by decide) [0, 1, 2] (by decide) rfl (fun ce q9 H locs hP hD hS hce hcv hcl => ?_)
    exact zt_out hlocks hout hP hD hS hce hcv hcl
