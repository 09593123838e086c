/-! Pure methods of the class: a mirror def each (by program out of the bytecode) and its contract. -/
theorem zif_pos {α : Type} {c : Prop} [Decidable c] {v a b : α} (h : c) (e : v = a) : v = if c then a else b := by rw [if_pos h]; exact e
theorem zif_neg {α : Type} {c : Prop} [Decidable c] {v a b : α} (h : ¬ c) (e : v = b) : v = if c then a else b := by rw [if_neg h]; exact e
theorem zifB_pos {c : Prop} [Decidable c] {v : Int32} {a b : Bool} (h : c) (e : v = bI a) : v = bI (if c then a else b) := by rw [if_pos h]; exact e
theorem zifB_neg {c : Prop} [Decidable c] {v : Int32} {a b : Bool} (h : ¬ c) (e : v = bI b) : v = bI (if c then a else b) := by rw [if_neg h]; exact e
theorem zbf {b : Bool} (h : b = false) : ¬ b = true := by rw [h]; decide
def zlshl (x : Int64) (y : Int32) : Int64 := x <<< (y.toInt64 &&& 63)
def zlshr (x : Int64) (y : Int32) : Int64 := x >>> (y.toInt64 &&& 63)
def zlushr (x : Int64) (y : Int32) : Int64 := (x.toUInt64 >>> (y.toInt64.toUInt64 &&& Int64.toUInt64 63)).toInt64
def m_X5_isCount (x0 : Int64) : Bool := if x0 < 0 then false else (if 65535 < x0 then false else true)
set_option maxRecDepth 20000 in
theorem c_X5_isCount (l : Launch) (x0 : Int64) : Pm l yX5_isCount cX5_isCount 2 (some FieldType.boolean) 0 [.long x0] (some (.int (bI (m_X5_isCount x0)))) := by
  refine Pm.of (by decide) (Nat.le_of_ble_eq_true rfl) ?_
  intro zp ze s zm args below zmeth zc hx hb hr hml hown hts hlocks ls hl
  have hl : lv_has ls 2 [(0, .long x0)] := hl
  refine lv_lload_n hx hb dX5_isCount_0 rfl (lv_at hl 0 rfl) ?_
  refine lv_lconst (v := 0) hx hb dX5_isCount_1 (by decide) ?_
  refine zl_lt (tgt := 18) hx hb dX5_isCount_2 dX5_isCount_3 (by decide) (fun h1 => ?_) (fun h1 => ?_)
  · refine lv_iconst (v := 0) hx hb dX5_isCount_18 (by decide) ?_
    exact zp_zret hx hb hr hlocks dX5_isCount_19 (zifB_pos h1 rfl)
  · refine lv_lload_n hx hb dX5_isCount_6 rfl (lv_at hl 0 rfl) ?_
    refine lv_ldc2 hx hb hown (hts _ u240) dX5_isCount_7 ?_
    refine zl_gt (tgt := 18) hx hb dX5_isCount_10 dX5_isCount_11 (by decide) (fun h2 => ?_) (fun h2 => ?_)
    · refine lv_iconst (v := 0) hx hb dX5_isCount_18 (by decide) ?_
      exact zp_zret hx hb hr hlocks dX5_isCount_19 (zifB_neg h1 (zifB_pos h2 rfl))
    · refine lv_iconst (v := 1) hx hb dX5_isCount_14 (by decide) ?_
      refine lv_goto (tgt := 19) hx hb dX5_isCount_15 (by decide) ?_
      exact zp_zret hx hb hr hlocks dX5_isCount_19 (zifB_neg h1 (zifB_neg h2 rfl))
def m_X5_told (x0 : Int32) (x1 : Int32) : Int32 := (4 * x0) + x1
set_option maxRecDepth 20000 in
theorem c_X5_told (l : Launch) (x0 : Int32) (x1 : Int32) : Pm l yX5_told cX5_told 2 (some FieldType.int) 0 [.int x0, .int x1] (some (.int (m_X5_told x0 x1))) := by
  refine Pm.of (by decide) (Nat.le_of_ble_eq_true rfl) ?_
  intro zp ze s zm args below zmeth zc hx hb hr hml hown hts hlocks ls hl
  have hl : lv_has ls 2 [(0, .int x0), (1, .int x1)] := hl
  refine lv_iconst (v := 4) hx hb dX5_told_0 (by decide) ?_
  refine lv_iload_n hx hb dX5_told_1 rfl (lv_at hl 0 rfl) ?_
  refine lv_imul hx hb dX5_told_2 ?_
  refine lv_iload_n hx hb dX5_told_3 rfl (lv_at hl 1 rfl) ?_
  refine lv_iadd hx hb dX5_told_4 ?_
  exact zp_iret hx hb hr hlocks dX5_told_5 rfl
def m_X5_countOf (x0 : Int32) : Int32 := x0 >>> (2 &&& 31)
set_option maxRecDepth 20000 in
theorem c_X5_countOf (l : Launch) (x0 : Int32) : Pm l yX5_countOf cX5_countOf 1 (some FieldType.int) 0 [.int x0] (some (.int (m_X5_countOf x0))) := by
  refine Pm.of (by decide) (Nat.le_of_ble_eq_true rfl) ?_
  intro zp ze s zm args below zmeth zc hx hb hr hml hown hts hlocks ls hl
  have hl : lv_has ls 1 [(0, .int x0)] := hl
  refine lv_iload_n hx hb dX5_countOf_0 rfl (lv_at hl 0 rfl) ?_
  refine lv_iconst (v := 2) hx hb dX5_countOf_1 (by decide) ?_
  refine lv_ishr hx hb dX5_countOf_2 ?_
  exact zp_iret hx hb hr hlocks dX5_countOf_3 rfl
def m_X5_kindOf (x0 : Int32) : Int32 := x0 &&& 3
set_option maxRecDepth 20000 in
theorem c_X5_kindOf (l : Launch) (x0 : Int32) : Pm l yX5_kindOf cX5_kindOf 1 (some FieldType.int) 0 [.int x0] (some (.int (m_X5_kindOf x0))) := by
  refine Pm.of (by decide) (Nat.le_of_ble_eq_true rfl) ?_
  intro zp ze s zm args below zmeth zc hx hb hr hml hown hts hlocks ls hl
  have hl : lv_has ls 1 [(0, .int x0)] := hl
  refine lv_iload_n hx hb dX5_kindOf_0 rfl (lv_at hl 0 rfl) ?_
  refine lv_iconst (v := 3) hx hb dX5_kindOf_1 (by decide) ?_
  refine lv_iand hx hb dX5_kindOf_2 ?_
  exact zp_iret hx hb hr hlocks dX5_kindOf_3 rfl
def m_X5_isBelow (x0 : Int32) : Bool := if (x0 &&& 2) = 0 then false else true
set_option maxRecDepth 20000 in
theorem c_X5_isBelow (l : Launch) (x0 : Int32) : Pm l yX5_isBelow cX5_isBelow 1 (some FieldType.boolean) 0 [.int x0] (some (.int (bI (m_X5_isBelow x0)))) := by
  refine Pm.of (by decide) (Nat.le_of_ble_eq_true rfl) ?_
  intro zp ze s zm args below zmeth zc hx hb hr hml hown hts hlocks ls hl
  have hl : lv_has ls 1 [(0, .int x0)] := hl
  refine lv_iload_n hx hb dX5_isBelow_0 rfl (lv_at hl 0 rfl) ?_
  refine lv_iconst (v := 2) hx hb dX5_isBelow_1 (by decide) ?_
  refine lv_iand hx hb dX5_isBelow_2 ?_
  refine lv_if_eq (tgt := 10) hx hb dX5_isBelow_3 (by decide) (fun h1 => ?_) (fun h1 => ?_)
  · refine lv_iconst (v := 0) hx hb dX5_isBelow_10 (by decide) ?_
    exact zp_zret hx hb hr hlocks dX5_isBelow_11 (zifB_pos h1 rfl)
  · refine lv_iconst (v := 1) hx hb dX5_isBelow_6 (by decide) ?_
    refine lv_goto (tgt := 11) hx hb dX5_isBelow_7 (by decide) ?_
    exact zp_zret hx hb hr hlocks dX5_isBelow_11 (zifB_neg h1 rfl)
def m_X5_isAboveZero (x0 : Int32) : Bool := if (m_X5_isBelow x0) = true then false else (if (m_X5_countOf x0) ≤ 0 then false else true)
set_option maxRecDepth 20000 in
theorem c_X5_isAboveZero (l : Launch) (x0 : Int32) : Pm l yX5_isAboveZero cX5_isAboveZero 1 (some FieldType.boolean) 1 [.int x0] (some (.int (bI (m_X5_isAboveZero x0)))) := by
  refine Pm.of (by decide) (Nat.le_of_ble_eq_true rfl) ?_
  intro zp ze s zm args below zmeth zc hx hb hr hml hown hts hlocks ls hl
  have hl : lv_has ls 1 [(0, .int x0)] := hl
  refine lv_iload_n hx hb dX5_isAboveZero_0 rfl (lv_at hl 0 rfl) ?_
  refine zp_call hx hb hml hown hts k_X5_11 (c_X5_isBelow l x0) ⟨by decide, by decide⟩ rfl hl.1 [] rfl (Nat.le_of_ble_eq_true rfl) dX5_isAboveZero_1 ⟨by decide, by decide⟩ ?_
  refine zb_ne (tgt := 18) hx hb dX5_isAboveZero_4 (by decide) (fun h1 => ?_) (fun h1 => ?_)
  · refine lv_iconst (v := 0) hx hb dX5_isAboveZero_18 (by decide) ?_
    exact zp_zret hx hb hr hlocks dX5_isAboveZero_19 (zifB_pos h1 rfl)
  · refine lv_iload_n hx hb dX5_isAboveZero_7 rfl (lv_at hl 0 rfl) ?_
    refine zp_call hx hb hml hown hts k_X5_15 (c_X5_countOf l x0) ⟨by decide, by decide⟩ rfl hl.1 [] rfl (Nat.le_of_ble_eq_true rfl) dX5_isAboveZero_8 ⟨by decide, by decide⟩ ?_
    refine lv_if_le (tgt := 18) hx hb dX5_isAboveZero_11 (by decide) (fun h2 => ?_) (fun h2 => ?_)
    · refine lv_iconst (v := 0) hx hb dX5_isAboveZero_18 (by decide) ?_
      exact zp_zret hx hb hr hlocks dX5_isAboveZero_19 (zifB_neg (zbf h1) (zifB_pos h2 rfl))
    · refine lv_iconst (v := 1) hx hb dX5_isAboveZero_14 (by decide) ?_
      refine lv_goto (tgt := 19) hx hb dX5_isAboveZero_15 (by decide) ?_
      exact zp_zret hx hb hr hlocks dX5_isAboveZero_19 (zifB_neg (zbf h1) (zifB_neg h2 rfl))
def m_X5_eighthsOf (x0 : Int32) : Int32 := if (x0 &&& 1) = 0 then (8 * (m_X5_countOf x0)) else (m_X5_countOf x0)
set_option maxRecDepth 20000 in
theorem c_X5_eighthsOf (l : Launch) (x0 : Int32) : Pm l yX5_eighthsOf cX5_eighthsOf 1 (some FieldType.int) 1 [.int x0] (some (.int (m_X5_eighthsOf x0))) := by
  refine Pm.of (by decide) (Nat.le_of_ble_eq_true rfl) ?_
  intro zp ze s zm args below zmeth zc hx hb hr hml hown hts hlocks ls hl
  have hl : lv_has ls 1 [(0, .int x0)] := hl
  refine lv_iload_n hx hb dX5_eighthsOf_0 rfl (lv_at hl 0 rfl) ?_
  refine lv_iconst (v := 1) hx hb dX5_eighthsOf_1 (by decide) ?_
  refine lv_iand hx hb dX5_eighthsOf_2 ?_
  refine lv_if_eq (tgt := 13) hx hb dX5_eighthsOf_3 (by decide) (fun h1 => ?_) (fun h1 => ?_)
  · refine lv_bipush (v := 8) hx hb dX5_eighthsOf_13 (by decide) ?_
    refine lv_iload_n hx hb dX5_eighthsOf_15 rfl (lv_at hl 0 rfl) ?_
    refine zp_call hx hb hml hown hts k_X5_15 (c_X5_countOf l x0) ⟨by decide, by decide⟩ rfl hl.1 [.int 8] rfl (Nat.le_of_ble_eq_true rfl) dX5_eighthsOf_16 ⟨by decide, by decide⟩ ?_
    refine lv_imul hx hb dX5_eighthsOf_19 ?_
    exact zp_iret hx hb hr hlocks dX5_eighthsOf_20 (zif_pos h1 rfl)
  · refine lv_iload_n hx hb dX5_eighthsOf_6 rfl (lv_at hl 0 rfl) ?_
    refine zp_call hx hb hml hown hts k_X5_15 (c_X5_countOf l x0) ⟨by decide, by decide⟩ rfl hl.1 [] rfl (Nat.le_of_ble_eq_true rfl) dX5_eighthsOf_7 ⟨by decide, by decide⟩ ?_
    refine lv_goto (tgt := 20) hx hb dX5_eighthsOf_10 (by decide) ?_
    exact zp_iret hx hb hr hlocks dX5_eighthsOf_20 (zif_neg h1 rfl)
def m_X5_signedOf (x0 : Int32) : Int32 := if (m_X5_isBelow x0) = true then (-(m_X5_eighthsOf x0)) else (m_X5_eighthsOf x0)
set_option maxRecDepth 20000 in
theorem c_X5_signedOf (l : Launch) (x0 : Int32) : Pm l yX5_signedOf cX5_signedOf 1 (some FieldType.int) 2 [.int x0] (some (.int (m_X5_signedOf x0))) := by
  refine Pm.of (by decide) (Nat.le_of_ble_eq_true rfl) ?_
  intro zp ze s zm args below zmeth zc hx hb hr hml hown hts hlocks ls hl
  have hl : lv_has ls 1 [(0, .int x0)] := hl
  refine lv_iload_n hx hb dX5_signedOf_0 rfl (lv_at hl 0 rfl) ?_
  refine zp_call hx hb hml hown hts k_X5_11 (c_X5_isBelow l x0) ⟨by decide, by decide⟩ rfl hl.1 [] rfl (Nat.le_of_ble_eq_true rfl) dX5_signedOf_1 ⟨by decide, by decide⟩ ?_
  refine zb_eq (tgt := 15) hx hb dX5_signedOf_4 (by decide) (fun h1 => ?_) (fun h1 => ?_)
  · refine lv_iload_n hx hb dX5_signedOf_15 rfl (lv_at hl 0 rfl) ?_
    refine zp_call hx hb hml hown hts k_X5_19 (c_X5_eighthsOf l x0) ⟨by decide, by decide⟩ rfl hl.1 [] rfl (Nat.le_of_ble_eq_true rfl) dX5_signedOf_16 ⟨by decide, by decide⟩ ?_
    exact zp_iret hx hb hr hlocks dX5_signedOf_19 (zif_neg (zbf h1) rfl)
  · refine lv_iload_n hx hb dX5_signedOf_7 rfl (lv_at hl 0 rfl) ?_
    refine zp_call hx hb hml hown hts k_X5_19 (c_X5_eighthsOf l x0) ⟨by decide, by decide⟩ rfl hl.1 [] rfl (Nat.le_of_ble_eq_true rfl) dX5_signedOf_8 ⟨by decide, by decide⟩ ?_
    refine lv_ineg hx hb dX5_signedOf_11 ?_
    refine lv_goto (tgt := 19) hx hb dX5_signedOf_12 (by decide) ?_
    exact zp_iret hx hb hr hlocks dX5_signedOf_19 (zif_pos h1 rfl)
def m_X5_oppositeOf (x0 : Int32) : Int32 := x0 ^^^ 2
set_option maxRecDepth 20000 in
theorem c_X5_oppositeOf (l : Launch) (x0 : Int32) : Pm l yX5_oppositeOf cX5_oppositeOf 1 (some FieldType.int) 0 [.int x0] (some (.int (m_X5_oppositeOf x0))) := by
  refine Pm.of (by decide) (Nat.le_of_ble_eq_true rfl) ?_
  intro zp ze s zm args below zmeth zc hx hb hr hml hown hts hlocks ls hl
  have hl : lv_has ls 1 [(0, .int x0)] := hl
  refine lv_iload_n hx hb dX5_oppositeOf_0 rfl (lv_at hl 0 rfl) ?_
  refine lv_iconst (v := 2) hx hb dX5_oppositeOf_1 (by decide) ?_
  refine lv_ixor hx hb dX5_oppositeOf_2 ?_
  exact zp_iret hx hb hr hlocks dX5_oppositeOf_3 rfl
def m_X5_eightfoldOf (x0 : Int32) : Int32 := if (x0 &&& 1) = 0 then (if (m_X5_isCount (Int32.toInt64 (8 * (m_X5_countOf x0)))) = true then (m_X5_told (8 * (m_X5_countOf x0)) (x0 &&& 2)) else (-1)) else (if (m_X5_isCount (Int32.toInt64 (m_X5_countOf x0))) = true then (m_X5_told (m_X5_countOf x0) (x0 &&& 2)) else (-1))
set_option maxRecDepth 20000 in
theorem c_X5_eightfoldOf (l : Launch) (x0 : Int32) : Pm l yX5_eightfoldOf cX5_eightfoldOf 2 (some FieldType.int) 1 [.int x0] (some (.int (m_X5_eightfoldOf x0))) := by
  refine Pm.of (by decide) (Nat.le_of_ble_eq_true rfl) ?_
  intro zp ze s zm args below zmeth zc hx hb hr hml hown hts hlocks ls hl
  have hl : lv_has ls 2 [(0, .int x0)] := hl
  refine lv_iload_n hx hb dX5_eightfoldOf_0 rfl (lv_at hl 0 rfl) ?_
  refine lv_iconst (v := 1) hx hb dX5_eightfoldOf_1 (by decide) ?_
  refine lv_iand hx hb dX5_eightfoldOf_2 ?_
  refine lv_if_eq (tgt := 13) hx hb dX5_eightfoldOf_3 (by decide) (fun h1 => ?_) (fun h1 => ?_)
  · refine lv_bipush (v := 8) hx hb dX5_eightfoldOf_13 (by decide) ?_
    refine lv_iload_n hx hb dX5_eightfoldOf_15 rfl (lv_at hl 0 rfl) ?_
    refine zp_call hx hb hml hown hts k_X5_15 (c_X5_countOf l x0) ⟨by decide, by decide⟩ rfl hl.1 [.int 8] rfl (Nat.le_of_ble_eq_true rfl) dX5_eightfoldOf_16 ⟨by decide, by decide⟩ ?_
    refine lv_imul hx hb dX5_eightfoldOf_19 ?_
    refine lv_istore_n (lv' := [(1, .int (8 * (m_X5_countOf x0))), (0, .int x0)]) hx hb dX5_eightfoldOf_20 rfl hl (by decide) rfl (fun ls hl => ?_)
    refine lv_iload_n hx hb dX5_eightfoldOf_21 rfl (lv_at hl 0 rfl) ?_
    refine lv_i2l hx hb dX5_eightfoldOf_22 rfl ?_
    refine zp_call hx hb hml hown hts k_X5_22 (c_X5_isCount l (Int32.toInt64 (8 * (m_X5_countOf x0)))) ⟨by decide, by decide⟩ rfl hl.1 [] rfl (Nat.le_of_ble_eq_true rfl) dX5_eightfoldOf_23 ⟨by decide, by decide⟩ ?_
    refine zb_eq (tgt := 39) hx hb dX5_eightfoldOf_26 (by decide) (fun h2 => ?_) (fun h2 => ?_)
    · refine lv_iconst (v := (-1)) hx hb dX5_eightfoldOf_39 (by decide) ?_
      exact zp_iret hx hb hr hlocks dX5_eightfoldOf_40 (zif_pos h1 (zif_neg (zbf h2) rfl))
    · refine lv_iload_n hx hb dX5_eightfoldOf_29 rfl (lv_at hl 0 rfl) ?_
      refine lv_iload_n hx hb dX5_eightfoldOf_30 rfl (lv_at hl 1 rfl) ?_
      refine lv_iconst (v := 2) hx hb dX5_eightfoldOf_31 (by decide) ?_
      refine lv_iand hx hb dX5_eightfoldOf_32 ?_
      refine zp_call hx hb hml hown hts k_X5_26 (c_X5_told l (8 * (m_X5_countOf x0)) (x0 &&& 2)) ⟨by decide, by decide⟩ rfl hl.1 [] rfl (Nat.le_of_ble_eq_true rfl) dX5_eightfoldOf_33 ⟨by decide, by decide⟩ ?_
      refine lv_goto (tgt := 40) hx hb dX5_eightfoldOf_36 (by decide) ?_
      exact zp_iret hx hb hr hlocks dX5_eightfoldOf_40 (zif_pos h1 (zif_pos h2 rfl))
  · refine lv_iload_n hx hb dX5_eightfoldOf_6 rfl (lv_at hl 0 rfl) ?_
    refine zp_call hx hb hml hown hts k_X5_15 (c_X5_countOf l x0) ⟨by decide, by decide⟩ rfl hl.1 [] rfl (Nat.le_of_ble_eq_true rfl) dX5_eightfoldOf_7 ⟨by decide, by decide⟩ ?_
    refine lv_goto (tgt := 20) hx hb dX5_eightfoldOf_10 (by decide) ?_
    refine lv_istore_n (lv' := [(1, .int (m_X5_countOf x0)), (0, .int x0)]) hx hb dX5_eightfoldOf_20 rfl hl (by decide) rfl (fun ls hl => ?_)
    refine lv_iload_n hx hb dX5_eightfoldOf_21 rfl (lv_at hl 0 rfl) ?_
    refine lv_i2l hx hb dX5_eightfoldOf_22 rfl ?_
    refine zp_call hx hb hml hown hts k_X5_22 (c_X5_isCount l (Int32.toInt64 (m_X5_countOf x0))) ⟨by decide, by decide⟩ rfl hl.1 [] rfl (Nat.le_of_ble_eq_true rfl) dX5_eightfoldOf_23 ⟨by decide, by decide⟩ ?_
    refine zb_eq (tgt := 39) hx hb dX5_eightfoldOf_26 (by decide) (fun h3 => ?_) (fun h3 => ?_)
    · refine lv_iconst (v := (-1)) hx hb dX5_eightfoldOf_39 (by decide) ?_
      exact zp_iret hx hb hr hlocks dX5_eightfoldOf_40 (zif_neg h1 (zif_neg (zbf h3) rfl))
    · refine lv_iload_n hx hb dX5_eightfoldOf_29 rfl (lv_at hl 0 rfl) ?_
      refine lv_iload_n hx hb dX5_eightfoldOf_30 rfl (lv_at hl 1 rfl) ?_
      refine lv_iconst (v := 2) hx hb dX5_eightfoldOf_31 (by decide) ?_
      refine lv_iand hx hb dX5_eightfoldOf_32 ?_
      refine zp_call hx hb hml hown hts k_X5_26 (c_X5_told l (m_X5_countOf x0) (x0 &&& 2)) ⟨by decide, by decide⟩ rfl hl.1 [] rfl (Nat.le_of_ble_eq_true rfl) dX5_eightfoldOf_33 ⟨by decide, by decide⟩ ?_
      refine lv_goto (tgt := 40) hx hb dX5_eightfoldOf_36 (by decide) ?_
      exact zp_iret hx hb hr hlocks dX5_eightfoldOf_40 (zif_neg h1 (zif_pos h3 rfl))
def m_X5_eighthOf (x0 : Int32) : Int32 := if (x0 &&& 1) = 0 then (m_X5_told (m_X5_countOf x0) ((x0 &&& 2) ||| 1)) else (if ((m_X5_countOf x0) - (m_X5_countOf x0) / 8 * 8) = 0 then (m_X5_told ((m_X5_countOf x0) / 8) (m_X5_kindOf x0)) else (-1))
set_option maxRecDepth 20000 in
theorem c_X5_eighthOf (l : Launch) (x0 : Int32) : Pm l yX5_eighthOf cX5_eighthOf 2 (some FieldType.int) 1 [.int x0] (some (.int (m_X5_eighthOf x0))) := by
  refine Pm.of (by decide) (Nat.le_of_ble_eq_true rfl) ?_
  intro zp ze s zm args below zmeth zc hx hb hr hml hown hts hlocks ls hl
  have hl : lv_has ls 2 [(0, .int x0)] := hl
  refine lv_iload_n hx hb dX5_eighthOf_0 rfl (lv_at hl 0 rfl) ?_
  refine zp_call hx hb hml hown hts k_X5_15 (c_X5_countOf l x0) ⟨by decide, by decide⟩ rfl hl.1 [] rfl (Nat.le_of_ble_eq_true rfl) dX5_eighthOf_1 ⟨by decide, by decide⟩ ?_
  refine lv_istore_n (lv' := [(1, .int (m_X5_countOf x0)), (0, .int x0)]) hx hb dX5_eighthOf_4 rfl hl (by decide) rfl (fun ls hl => ?_)
  refine lv_iload_n hx hb dX5_eighthOf_5 rfl (lv_at hl 1 rfl) ?_
  refine lv_iconst (v := 1) hx hb dX5_eighthOf_6 (by decide) ?_
  refine lv_iand hx hb dX5_eighthOf_7 ?_
  refine lv_if_ne (tgt := 21) hx hb dX5_eighthOf_8 (by decide) (fun h1 => ?_) (fun h1 => ?_)
  · refine lv_iload_n hx hb dX5_eighthOf_21 rfl (lv_at hl 0 rfl) ?_
    refine lv_bipush (v := 8) hx hb dX5_eighthOf_22 (by decide) ?_
    refine lv_irem hx hb dX5_eighthOf_24 (by decide) ?_
    refine lv_if_ne (tgt := 42) hx hb dX5_eighthOf_25 (by decide) (fun h2 => ?_) (fun h2 => ?_)
    · refine lv_iconst (v := (-1)) hx hb dX5_eighthOf_42 (by decide) ?_
      exact zp_iret hx hb hr hlocks dX5_eighthOf_43 (zif_neg h1 (zif_neg h2 rfl))
    · refine lv_iload_n hx hb dX5_eighthOf_28 rfl (lv_at hl 0 rfl) ?_
      refine lv_bipush (v := 8) hx hb dX5_eighthOf_29 (by decide) ?_
      refine lv_idiv hx hb dX5_eighthOf_31 (by decide) ?_
      refine lv_iload_n hx hb dX5_eighthOf_32 rfl (lv_at hl 1 rfl) ?_
      refine zp_call hx hb hml hown hts k_X5_30 (c_X5_kindOf l x0) ⟨by decide, by decide⟩ rfl hl.1 [.int ((m_X5_countOf x0) / 8)] rfl (Nat.le_of_ble_eq_true rfl) dX5_eighthOf_33 ⟨by decide, by decide⟩ ?_
      refine zp_call hx hb hml hown hts k_X5_26 (c_X5_told l ((m_X5_countOf x0) / 8) (m_X5_kindOf x0)) ⟨by decide, by decide⟩ rfl hl.1 [] rfl (Nat.le_of_ble_eq_true rfl) dX5_eighthOf_36 ⟨by decide, by decide⟩ ?_
      refine lv_goto (tgt := 43) hx hb dX5_eighthOf_39 (by decide) ?_
      exact zp_iret hx hb hr hlocks dX5_eighthOf_43 (zif_neg h1 (zif_pos h2 rfl))
  · refine lv_iload_n hx hb dX5_eighthOf_11 rfl (lv_at hl 0 rfl) ?_
    refine lv_iload_n hx hb dX5_eighthOf_12 rfl (lv_at hl 1 rfl) ?_
    refine lv_iconst (v := 2) hx hb dX5_eighthOf_13 (by decide) ?_
    refine lv_iand hx hb dX5_eighthOf_14 ?_
    refine lv_iconst (v := 1) hx hb dX5_eighthOf_15 (by decide) ?_
    refine lv_ior hx hb dX5_eighthOf_16 ?_
    refine zp_call hx hb hml hown hts k_X5_26 (c_X5_told l (m_X5_countOf x0) ((x0 &&& 2) ||| 1)) ⟨by decide, by decide⟩ rfl hl.1 [] rfl (Nat.le_of_ble_eq_true rfl) dX5_eighthOf_17 ⟨by decide, by decide⟩ ?_
    exact zp_iret hx hb hr hlocks dX5_eighthOf_20 (zif_pos h1 rfl)
def m_X5_reduced (x0 : Int64) (x1 : Int32) : Int32 := if (x0 - x0 / 8 * 8) = 0 then (if (m_X5_isCount (x0 / 8)) = true then (m_X5_told (Int64.toInt32 (x0 / 8)) x1) else (-1)) else (if (m_X5_isCount x0) = true then (m_X5_told (Int64.toInt32 x0) (x1 ||| 1)) else (-1))
set_option maxRecDepth 20000 in
theorem c_X5_reduced (l : Launch) (x0 : Int64) (x1 : Int32) : Pm l yX5_reduced cX5_reduced 6 (some FieldType.int) 1 [.long x0, .int x1] (some (.int (m_X5_reduced x0 x1))) := by
  refine Pm.of (by decide) (Nat.le_of_ble_eq_true rfl) ?_
  intro zp ze s zm args below zmeth zc hx hb hr hml hown hts hlocks ls hl
  have hl : lv_has ls 6 [(0, .long x0), (2, .int x1)] := hl
  refine lv_lload_n hx hb dX5_reduced_0 rfl (lv_at hl 0 rfl) ?_
  refine lv_ldc2 hx hb hown (hts _ u305) dX5_reduced_1 ?_
  refine lv_lrem hx hb dX5_reduced_4 (by decide) ?_
  refine lv_lconst (v := 0) hx hb dX5_reduced_5 (by decide) ?_
  refine zl_ne (tgt := 14) hx hb dX5_reduced_6 dX5_reduced_7 (by decide) (fun h1 => ?_) (fun h1 => ?_)
  · refine lv_iconst (v := 0) hx hb dX5_reduced_14 (by decide) ?_
    refine lv_istore_n (lv' := [(3, .int 0), (0, .long x0), (2, .int x1)]) hx hb dX5_reduced_15 rfl hl (by decide) rfl (fun ls hl => ?_)
    refine lv_iload_n hx hb dX5_reduced_16 rfl (lv_at hl 0 rfl) ?_
    refine lv_if_eq (tgt := 28) hx hb dX5_reduced_17 (by decide) (fun h2 => ?_) (fun h2 => ?_)
    · refine lv_lload_n hx hb dX5_reduced_28 rfl (lv_at hl 1 rfl) ?_
      refine lv_lstore (lv' := [(4, .long x0), (3, .int 0), (0, .long x0), (2, .int x1)]) hx hb dX5_reduced_29 hl (by decide) rfl (fun ls hl => ?_)
      refine lv_lload hx hb dX5_reduced_31 (lv_at hl 0 rfl) ?_
      refine zp_call hx hb hml hown hts k_X5_22 (c_X5_isCount l x0) ⟨by decide, by decide⟩ rfl hl.1 [] rfl (Nat.le_of_ble_eq_true rfl) dX5_reduced_33 ⟨by decide, by decide⟩ ?_
      refine zb_eq (tgt := 59) hx hb dX5_reduced_36 (by decide) (fun h3 => ?_) (fun h3 => ?_)
      · refine lv_iconst (v := (-1)) hx hb dX5_reduced_59 (by decide) ?_
        exact zp_iret hx hb hr hlocks dX5_reduced_60 (zif_neg h1 (zif_neg (zbf h3) rfl))
      · refine lv_lload hx hb dX5_reduced_39 (lv_at hl 0 rfl) ?_
        refine lv_l2i hx hb dX5_reduced_41 rfl ?_
        refine lv_iload_n hx hb dX5_reduced_42 rfl (lv_at hl 1 rfl) ?_
        refine lv_if_eq (tgt := 50) hx hb dX5_reduced_43 (by decide) (fun h4 => ?_) (fun h4 => ?_)
        · refine lv_iload_n hx hb dX5_reduced_50 rfl (lv_at hl 3 rfl) ?_
          refine lv_iconst (v := 1) hx hb dX5_reduced_51 (by decide) ?_
          refine lv_ior hx hb dX5_reduced_52 ?_
          refine zp_call hx hb hml hown hts k_X5_26 (c_X5_told l (Int64.toInt32 x0) (x1 ||| 1)) ⟨by decide, by decide⟩ rfl hl.1 [] rfl (Nat.le_of_ble_eq_true rfl) dX5_reduced_53 ⟨by decide, by decide⟩ ?_
          refine lv_goto (tgt := 60) hx hb dX5_reduced_56 (by decide) ?_
          exact zp_iret hx hb hr hlocks dX5_reduced_60 (zif_neg h1 (zif_pos h3 rfl))
        · exact absurd h4 (by decide)
    · exact absurd h2 (by decide)
  · refine lv_iconst (v := 1) hx hb dX5_reduced_10 (by decide) ?_
    refine lv_goto (tgt := 15) hx hb dX5_reduced_11 (by decide) ?_
    refine lv_istore_n (lv' := [(3, .int 1), (0, .long x0), (2, .int x1)]) hx hb dX5_reduced_15 rfl hl (by decide) rfl (fun ls hl => ?_)
    refine lv_iload_n hx hb dX5_reduced_16 rfl (lv_at hl 0 rfl) ?_
    refine lv_if_eq (tgt := 28) hx hb dX5_reduced_17 (by decide) (fun h5 => ?_) (fun h5 => ?_)
    · exact absurd h5 (by decide)
    · refine lv_lload_n hx hb dX5_reduced_20 rfl (lv_at hl 1 rfl) ?_
      refine lv_ldc2 hx hb hown (hts _ u305) dX5_reduced_21 ?_
      refine lv_ldiv hx hb dX5_reduced_24 (by decide) ?_
      refine lv_goto (tgt := 29) hx hb dX5_reduced_25 (by decide) ?_
      refine lv_lstore (lv' := [(4, .long (x0 / 8)), (3, .int 1), (0, .long x0), (2, .int x1)]) hx hb dX5_reduced_29 hl (by decide) rfl (fun ls hl => ?_)
      refine lv_lload hx hb dX5_reduced_31 (lv_at hl 0 rfl) ?_
      refine zp_call hx hb hml hown hts k_X5_22 (c_X5_isCount l (x0 / 8)) ⟨by decide, by decide⟩ rfl hl.1 [] rfl (Nat.le_of_ble_eq_true rfl) dX5_reduced_33 ⟨by decide, by decide⟩ ?_
      refine zb_eq (tgt := 59) hx hb dX5_reduced_36 (by decide) (fun h6 => ?_) (fun h6 => ?_)
      · refine lv_iconst (v := (-1)) hx hb dX5_reduced_59 (by decide) ?_
        exact zp_iret hx hb hr hlocks dX5_reduced_60 (zif_pos h1 (zif_neg (zbf h6) rfl))
      · refine lv_lload hx hb dX5_reduced_39 (lv_at hl 0 rfl) ?_
        refine lv_l2i hx hb dX5_reduced_41 rfl ?_
        refine lv_iload_n hx hb dX5_reduced_42 rfl (lv_at hl 1 rfl) ?_
        refine lv_if_eq (tgt := 50) hx hb dX5_reduced_43 (by decide) (fun h7 => ?_) (fun h7 => ?_)
        · exact absurd h7 (by decide)
        · refine lv_iload_n hx hb dX5_reduced_46 rfl (lv_at hl 3 rfl) ?_
          refine lv_goto (tgt := 53) hx hb dX5_reduced_47 (by decide) ?_
          refine zp_call hx hb hml hown hts k_X5_26 (c_X5_told l (Int64.toInt32 (x0 / 8)) x1) ⟨by decide, by decide⟩ rfl hl.1 [] rfl (Nat.le_of_ble_eq_true rfl) dX5_reduced_53 ⟨by decide, by decide⟩ ?_
          refine lv_goto (tgt := 60) hx hb dX5_reduced_56 (by decide) ?_
          exact zp_iret hx hb hr hlocks dX5_reduced_60 (zif_pos h1 (zif_pos h6 rfl))
def m_X5_productOf (x0 : Int32) (x1 : Int32) : Int32 := if (((Int32.toInt64 (m_X5_eighthsOf x0)) * (Int32.toInt64 (m_X5_eighthsOf x1))) - ((Int32.toInt64 (m_X5_eighthsOf x0)) * (Int32.toInt64 (m_X5_eighthsOf x1))) / 8 * 8) = 0 then (m_X5_reduced (((Int32.toInt64 (m_X5_eighthsOf x0)) * (Int32.toInt64 (m_X5_eighthsOf x1))) / 8) ((x0 ^^^ x1) &&& 2)) else (-1)
set_option maxRecDepth 20000 in
theorem c_X5_productOf (l : Launch) (x0 : Int32) (x1 : Int32) : Pm l yX5_productOf cX5_productOf 4 (some FieldType.int) 2 [.int x0, .int x1] (some (.int (m_X5_productOf x0 x1))) := by
  refine Pm.of (by decide) (Nat.le_of_ble_eq_true rfl) ?_
  intro zp ze s zm args below zmeth zc hx hb hr hml hown hts hlocks ls hl
  have hl : lv_has ls 4 [(0, .int x0), (1, .int x1)] := hl
  refine lv_iload_n hx hb dX5_productOf_0 rfl (lv_at hl 0 rfl) ?_
  refine zp_call hx hb hml hown hts k_X5_19 (c_X5_eighthsOf l x0) ⟨by decide, by decide⟩ rfl hl.1 [] rfl (Nat.le_of_ble_eq_true rfl) dX5_productOf_1 ⟨by decide, by decide⟩ ?_
  refine lv_i2l hx hb dX5_productOf_4 rfl ?_
  refine lv_iload_n hx hb dX5_productOf_5 rfl (lv_at hl 1 rfl) ?_
  refine zp_call hx hb hml hown hts k_X5_19 (c_X5_eighthsOf l x1) ⟨by decide, by decide⟩ rfl hl.1 [.long (Int32.toInt64 (m_X5_eighthsOf x0))] rfl (Nat.le_of_ble_eq_true rfl) dX5_productOf_6 ⟨by decide, by decide⟩ ?_
  refine lv_i2l hx hb dX5_productOf_9 rfl ?_
  refine lv_lmul hx hb dX5_productOf_10 ?_
  refine lv_lstore_n (lv' := [(2, .long ((Int32.toInt64 (m_X5_eighthsOf x0)) * (Int32.toInt64 (m_X5_eighthsOf x1)))), (0, .int x0), (1, .int x1)]) hx hb dX5_productOf_11 rfl hl (by decide) rfl (fun ls hl => ?_)
  refine lv_lload_n hx hb dX5_productOf_12 rfl (lv_at hl 0 rfl) ?_
  refine lv_ldc2 hx hb hown (hts _ u305) dX5_productOf_13 ?_
  refine lv_lrem hx hb dX5_productOf_16 (by decide) ?_
  refine lv_lconst (v := 0) hx hb dX5_productOf_17 (by decide) ?_
  refine zl_ne (tgt := 38) hx hb dX5_productOf_18 dX5_productOf_19 (by decide) (fun h1 => ?_) (fun h1 => ?_)
  · refine lv_iconst (v := (-1)) hx hb dX5_productOf_38 (by decide) ?_
    exact zp_iret hx hb hr hlocks dX5_productOf_39 (zif_neg h1 rfl)
  · refine lv_lload_n hx hb dX5_productOf_22 rfl (lv_at hl 0 rfl) ?_
    refine lv_ldc2 hx hb hown (hts _ u305) dX5_productOf_23 ?_
    refine lv_ldiv hx hb dX5_productOf_26 (by decide) ?_
    refine lv_iload_n hx hb dX5_productOf_27 rfl (lv_at hl 1 rfl) ?_
    refine lv_iload_n hx hb dX5_productOf_28 rfl (lv_at hl 2 rfl) ?_
    refine lv_ixor hx hb dX5_productOf_29 ?_
    refine lv_iconst (v := 2) hx hb dX5_productOf_30 (by decide) ?_
    refine lv_iand hx hb dX5_productOf_31 ?_
    refine zp_call hx hb hml hown hts k_X5_35 (c_X5_reduced l (((Int32.toInt64 (m_X5_eighthsOf x0)) * (Int32.toInt64 (m_X5_eighthsOf x1))) / 8) ((x0 ^^^ x1) &&& 2)) ⟨by decide, by decide⟩ rfl hl.1 [] rfl (Nat.le_of_ble_eq_true rfl) dX5_productOf_32 ⟨by decide, by decide⟩ ?_
    refine lv_goto (tgt := 39) hx hb dX5_productOf_35 (by decide) ?_
    exact zp_iret hx hb hr hlocks dX5_productOf_39 (zif_pos h1 rfl)
def m_X5_sumOf (x0 : Int32) (x1 : Int32) : Int32 := m_X5_reduced ((Int32.toInt64 (m_X5_eighthsOf x0)) + (Int32.toInt64 (m_X5_eighthsOf x1))) 0
set_option maxRecDepth 20000 in
theorem c_X5_sumOf (l : Launch) (x0 : Int32) (x1 : Int32) : Pm l yX5_sumOf cX5_sumOf 2 (some FieldType.int) 2 [.int x0, .int x1] (some (.int (m_X5_sumOf x0 x1))) := by
  refine Pm.of (by decide) (Nat.le_of_ble_eq_true rfl) ?_
  intro zp ze s zm args below zmeth zc hx hb hr hml hown hts hlocks ls hl
  have hl : lv_has ls 2 [(0, .int x0), (1, .int x1)] := hl
  refine lv_iload_n hx hb dX5_sumOf_0 rfl (lv_at hl 0 rfl) ?_
  refine zp_call hx hb hml hown hts k_X5_19 (c_X5_eighthsOf l x0) ⟨by decide, by decide⟩ rfl hl.1 [] rfl (Nat.le_of_ble_eq_true rfl) dX5_sumOf_1 ⟨by decide, by decide⟩ ?_
  refine lv_i2l hx hb dX5_sumOf_4 rfl ?_
  refine lv_iload_n hx hb dX5_sumOf_5 rfl (lv_at hl 1 rfl) ?_
  refine zp_call hx hb hml hown hts k_X5_19 (c_X5_eighthsOf l x1) ⟨by decide, by decide⟩ rfl hl.1 [.long (Int32.toInt64 (m_X5_eighthsOf x0))] rfl (Nat.le_of_ble_eq_true rfl) dX5_sumOf_6 ⟨by decide, by decide⟩ ?_
  refine lv_i2l hx hb dX5_sumOf_9 rfl ?_
  refine lv_ladd hx hb dX5_sumOf_10 ?_
  refine lv_iconst (v := 0) hx hb dX5_sumOf_11 (by decide) ?_
  refine zp_call hx hb hml hown hts k_X5_35 (c_X5_reduced l ((Int32.toInt64 (m_X5_eighthsOf x0)) + (Int32.toInt64 (m_X5_eighthsOf x1))) 0) ⟨by decide, by decide⟩ rfl hl.1 [] rfl (Nat.le_of_ble_eq_true rfl) dX5_sumOf_12 ⟨by decide, by decide⟩ ?_
  exact zp_iret hx hb hr hlocks dX5_sumOf_15 rfl
def m_X0_mantissaOf (x0 : Int64) : Int64 := (x0 &&& 4503599627370495) ||| 4503599627370496
set_option maxRecDepth 20000 in
theorem c_X0_mantissaOf (l : Launch) (x0 : Int64) : Pm l yX0_mantissaOf cX0_mantissaOf 2 (some FieldType.long) 0 [.long x0] (some (.long (m_X0_mantissaOf x0))) := by
  refine Pm.of (by decide) (Nat.le_of_ble_eq_true rfl) ?_
  intro zp ze s zm args below zmeth zc hx hb hr hml hown hts hlocks ls hl
  have hl : lv_has ls 2 [(0, .long x0)] := hl
  refine lv_lload_n hx hb dX0_mantissaOf_0 rfl (lv_at hl 0 rfl) ?_
  refine lv_ldc2 hx hb hown (hts _ u179) dX0_mantissaOf_1 ?_
  refine lv_land hx hb dX0_mantissaOf_4 ?_
  refine lv_ldc2 hx hb hown (hts _ u180) dX0_mantissaOf_5 ?_
  refine lv_lor hx hb dX0_mantissaOf_8 ?_
  exact zp_lret hx hb hr hlocks dX0_mantissaOf_9 rfl
def m_X0_scaleOf (x0 : Int64) : Int32 := ((Int64.toInt32 ((zlushr x0 52) &&& 2047)) - 1023) - 52
set_option maxRecDepth 20000 in
theorem c_X0_scaleOf (l : Launch) (x0 : Int64) : Pm l yX0_scaleOf cX0_scaleOf 2 (some FieldType.int) 0 [.long x0] (some (.int (m_X0_scaleOf x0))) := by
  refine Pm.of (by decide) (Nat.le_of_ble_eq_true rfl) ?_
  intro zp ze s zm args below zmeth zc hx hb hr hml hown hts hlocks ls hl
  have hl : lv_has ls 2 [(0, .long x0)] := hl
  refine lv_lload_n hx hb dX0_scaleOf_0 rfl (lv_at hl 0 rfl) ?_
  refine lv_bipush (v := 52) hx hb dX0_scaleOf_1 (by decide) ?_
  refine lv_lushr hx hb dX0_scaleOf_3 rfl ?_
  refine lv_ldc2 hx hb hown (hts _ u184) dX0_scaleOf_4 ?_
  refine lv_land hx hb dX0_scaleOf_7 ?_
  refine lv_l2i hx hb dX0_scaleOf_8 rfl ?_
  refine lv_sipush (v := 1023) hx hb dX0_scaleOf_9 (by decide) ?_
  refine lv_isub hx hb dX0_scaleOf_12 ?_
  refine lv_bipush (v := 52) hx hb dX0_scaleOf_13 (by decide) ?_
  refine lv_isub hx hb dX0_scaleOf_15 ?_
  exact zp_iret hx hb hr hlocks dX0_scaleOf_16 rfl
def m_X2_withoutSign (x0 : Int64) : Int64 := x0 &&& 9223372036854775807
set_option maxRecDepth 20000 in
theorem c_X2_withoutSign (l : Launch) (x0 : Int64) : Pm l yX2_withoutSign cX2_withoutSign 2 (some FieldType.long) 0 [.long x0] (some (.long (m_X2_withoutSign x0))) := by
  refine Pm.of (by decide) (Nat.le_of_ble_eq_true rfl) ?_
  intro zp ze s zm args below zmeth zc hx hb hr hml hown hts hlocks ls hl
  have hl : lv_has ls 2 [(0, .long x0)] := hl
  refine lv_lload_n hx hb dX2_withoutSign_0 rfl (lv_at hl 0 rfl) ?_
  refine lv_ldc2 hx hb hown (hts _ u120) dX2_withoutSign_1 ?_
  refine lv_land hx hb dX2_withoutSign_4 ?_
  exact zp_lret hx hb hr hlocks dX2_withoutSign_5 rfl
def m_X2_isZero (x0 : Int64) : Bool := if (m_X2_withoutSign x0) = 0 then true else false
set_option maxRecDepth 20000 in
theorem c_X2_isZero (l : Launch) (x0 : Int64) : Pm l yX2_isZero cX2_isZero 2 (some FieldType.boolean) 1 [.long x0] (some (.int (bI (m_X2_isZero x0)))) := by
  refine Pm.of (by decide) (Nat.le_of_ble_eq_true rfl) ?_
  intro zp ze s zm args below zmeth zc hx hb hr hml hown hts hlocks ls hl
  have hl : lv_has ls 2 [(0, .long x0)] := hl
  refine lv_lload_n hx hb dX2_isZero_0 rfl (lv_at hl 0 rfl) ?_
  refine zp_call hx hb hml hown hts k_X2_27 (c_X2_withoutSign l x0) ⟨by decide, by decide⟩ rfl hl.1 [] rfl (Nat.le_of_ble_eq_true rfl) dX2_isZero_1 ⟨by decide, by decide⟩ ?_
  refine lv_lconst (v := 0) hx hb dX2_isZero_4 (by decide) ?_
  refine zl_ne (tgt := 13) hx hb dX2_isZero_5 dX2_isZero_6 (by decide) (fun h1 => ?_) (fun h1 => ?_)
  · refine lv_iconst (v := 0) hx hb dX2_isZero_13 (by decide) ?_
    exact zp_zret hx hb hr hlocks dX2_isZero_14 (zifB_neg h1 rfl)
  · refine lv_iconst (v := 1) hx hb dX2_isZero_9 (by decide) ?_
    refine lv_goto (tgt := 14) hx hb dX2_isZero_10 (by decide) ?_
    exact zp_zret hx hb hr hlocks dX2_isZero_14 (zifB_pos h1 rfl)
def m_X2_rankOf (x0 : Int64) : Int64 := if x0 < 0 then (-(m_X2_withoutSign x0)) else x0
set_option maxRecDepth 20000 in
theorem c_X2_rankOf (l : Launch) (x0 : Int64) : Pm l yX2_rankOf cX2_rankOf 2 (some FieldType.long) 1 [.long x0] (some (.long (m_X2_rankOf x0))) := by
  refine Pm.of (by decide) (Nat.le_of_ble_eq_true rfl) ?_
  intro zp ze s zm args below zmeth zc hx hb hr hml hown hts hlocks ls hl
  have hl : lv_has ls 2 [(0, .long x0)] := hl
  refine lv_lload_n hx hb dX2_rankOf_0 rfl (lv_at hl 0 rfl) ?_
  refine lv_lconst (v := 0) hx hb dX2_rankOf_1 (by decide) ?_
  refine zl_ge (tgt := 14) hx hb dX2_rankOf_2 dX2_rankOf_3 (by decide) (fun h1 => ?_) (fun h1 => ?_)
  · refine lv_lload_n hx hb dX2_rankOf_14 rfl (lv_at hl 0 rfl) ?_
    exact zp_lret hx hb hr hlocks dX2_rankOf_15 (zif_neg h1 rfl)
  · refine lv_lload_n hx hb dX2_rankOf_6 rfl (lv_at hl 0 rfl) ?_
    refine zp_call hx hb hml hown hts k_X2_27 (c_X2_withoutSign l x0) ⟨by decide, by decide⟩ rfl hl.1 [] rfl (Nat.le_of_ble_eq_true rfl) dX2_rankOf_7 ⟨by decide, by decide⟩ ?_
    refine lv_lneg hx hb dX2_rankOf_10 ?_
    refine lv_goto (tgt := 15) hx hb dX2_rankOf_11 (by decide) ?_
    exact zp_lret hx hb hr hlocks dX2_rankOf_15 (zif_pos h1 rfl)
def m_X2_isLess (x0 : Int64) (x1 : Int64) : Bool := if (m_X2_rankOf x0) < (m_X2_rankOf x1) then true else false
set_option maxRecDepth 20000 in
theorem c_X2_isLess (l : Launch) (x0 : Int64) (x1 : Int64) : Pm l yX2_isLess cX2_isLess 4 (some FieldType.boolean) 2 [.long x0, .long x1] (some (.int (bI (m_X2_isLess x0 x1)))) := by
  refine Pm.of (by decide) (Nat.le_of_ble_eq_true rfl) ?_
  intro zp ze s zm args below zmeth zc hx hb hr hml hown hts hlocks ls hl
  have hl : lv_has ls 4 [(0, .long x0), (2, .long x1)] := hl
  refine lv_lload_n hx hb dX2_isLess_0 rfl (lv_at hl 0 rfl) ?_
  refine zp_call hx hb hml hown hts k_X2_33 (c_X2_rankOf l x0) ⟨by decide, by decide⟩ rfl hl.1 [] rfl (Nat.le_of_ble_eq_true rfl) dX2_isLess_1 ⟨by decide, by decide⟩ ?_
  refine lv_lload_n hx hb dX2_isLess_4 rfl (lv_at hl 1 rfl) ?_
  refine zp_call hx hb hml hown hts k_X2_33 (c_X2_rankOf l x1) ⟨by decide, by decide⟩ rfl hl.1 [.long (m_X2_rankOf x0)] rfl (Nat.le_of_ble_eq_true rfl) dX2_isLess_5 ⟨by decide, by decide⟩ ?_
  refine zl_ge (tgt := 16) hx hb dX2_isLess_8 dX2_isLess_9 (by decide) (fun h1 => ?_) (fun h1 => ?_)
  · refine lv_iconst (v := 0) hx hb dX2_isLess_16 (by decide) ?_
    exact zp_zret hx hb hr hlocks dX2_isLess_17 (zifB_neg h1 rfl)
  · refine lv_iconst (v := 1) hx hb dX2_isLess_12 (by decide) ?_
    refine lv_goto (tgt := 17) hx hb dX2_isLess_13 (by decide) ?_
    exact zp_zret hx hb hr hlocks dX2_isLess_17 (zifB_pos h1 rfl)
def m_X2_fineOf (x0 : Int64) : Int32 := if (m_X2_isZero x0) = true then 0 else (if x0 < 0 then (-(Int64.toInt32 (zlshr (m_X0_mantissaOf x0) (-((m_X0_scaleOf x0) + 10))))) else (Int64.toInt32 (zlshr (m_X0_mantissaOf x0) (-((m_X0_scaleOf x0) + 10)))))
set_option maxRecDepth 20000 in
theorem c_X2_fineOf (l : Launch) (x0 : Int64) : Pm l yX2_fineOf cX2_fineOf 3 (some FieldType.int) 2 [.long x0] (some (.int (m_X2_fineOf x0))) := by
  refine Pm.of (by decide) (Nat.le_of_ble_eq_true rfl) ?_
  intro zp ze s zm args below zmeth zc hx hb hr hml hown hts hlocks ls hl
  have hl : lv_has ls 3 [(0, .long x0)] := hl
  refine lv_lload_n hx hb dX2_fineOf_0 rfl (lv_at hl 0 rfl) ?_
  refine zp_call hx hb hml hown hts k_X2_36 (c_X2_isZero l x0) ⟨by decide, by decide⟩ rfl hl.1 [] rfl (Nat.le_of_ble_eq_true rfl) dX2_fineOf_1 ⟨by decide, by decide⟩ ?_
  refine zb_eq (tgt := 9) hx hb dX2_fineOf_4 (by decide) (fun h1 => ?_) (fun h1 => ?_)
  · refine lv_lload_n hx hb dX2_fineOf_9 rfl (lv_at hl 0 rfl) ?_
    refine zp_call hx hb hml hown hts k_X2_40 (c_X0_mantissaOf l x0) ⟨by decide, by decide⟩ rfl hl.1 [] rfl (Nat.le_of_ble_eq_true rfl) dX2_fineOf_10 ⟨by decide, by decide⟩ ?_
    refine lv_lload_n hx hb dX2_fineOf_13 rfl (lv_at hl 0 rfl) ?_
    refine zp_call hx hb hml hown hts k_X2_45 (c_X0_scaleOf l x0) ⟨by decide, by decide⟩ rfl hl.1 [.long (m_X0_mantissaOf x0)] rfl (Nat.le_of_ble_eq_true rfl) dX2_fineOf_14 ⟨by decide, by decide⟩ ?_
    refine lv_bipush (v := 10) hx hb dX2_fineOf_17 (by decide) ?_
    refine lv_iadd hx hb dX2_fineOf_19 ?_
    refine lv_ineg hx hb dX2_fineOf_20 ?_
    refine lv_lshr hx hb dX2_fineOf_21 rfl ?_
    refine lv_l2i hx hb dX2_fineOf_22 rfl ?_
    refine lv_istore_n (lv' := [(2, .int (Int64.toInt32 (zlshr (m_X0_mantissaOf x0) (-((m_X0_scaleOf x0) + 10))))), (0, .long x0)]) hx hb dX2_fineOf_23 rfl hl (by decide) rfl (fun ls hl => ?_)
    refine lv_lload_n hx hb dX2_fineOf_24 rfl (lv_at hl 1 rfl) ?_
    refine lv_lconst (v := 0) hx hb dX2_fineOf_25 (by decide) ?_
    refine zl_ge (tgt := 35) hx hb dX2_fineOf_26 dX2_fineOf_27 (by decide) (fun h2 => ?_) (fun h2 => ?_)
    · refine lv_iload_n hx hb dX2_fineOf_35 rfl (lv_at hl 0 rfl) ?_
      exact zp_iret hx hb hr hlocks dX2_fineOf_36 (zif_neg (zbf h1) (zif_neg h2 rfl))
    · refine lv_iload_n hx hb dX2_fineOf_30 rfl (lv_at hl 0 rfl) ?_
      refine lv_ineg hx hb dX2_fineOf_31 ?_
      refine lv_goto (tgt := 36) hx hb dX2_fineOf_32 (by decide) ?_
      exact zp_iret hx hb hr hlocks dX2_fineOf_36 (zif_neg (zbf h1) (zif_pos h2 rfl))
  · refine lv_iconst (v := 0) hx hb dX2_fineOf_7 (by decide) ?_
    exact zp_iret hx hb hr hlocks dX2_fineOf_8 (zif_pos h1 rfl)
def m_X2_wholeOf (x0 : Int64) : Int32 := (m_X2_fineOf x0) / 1024
set_option maxRecDepth 20000 in
theorem c_X2_wholeOf (l : Launch) (x0 : Int64) : Pm l yX2_wholeOf cX2_wholeOf 2 (some FieldType.int) 3 [.long x0] (some (.int (m_X2_wholeOf x0))) := by
  refine Pm.of (by decide) (Nat.le_of_ble_eq_true rfl) ?_
  intro zp ze s zm args below zmeth zc hx hb hr hml hown hts hlocks ls hl
  have hl : lv_has ls 2 [(0, .long x0)] := hl
  refine lv_lload_n hx hb dX2_wholeOf_0 rfl (lv_at hl 0 rfl) ?_
  refine zp_call hx hb hml hown hts k_X2_49 (c_X2_fineOf l x0) ⟨by decide, by decide⟩ rfl hl.1 [] rfl (Nat.le_of_ble_eq_true rfl) dX2_wholeOf_1 ⟨by decide, by decide⟩ ?_
  refine lv_sipush (v := 1024) hx hb dX2_wholeOf_4 (by decide) ?_
  refine lv_idiv hx hb dX2_wholeOf_7 (by decide) ?_
  exact zp_iret hx hb hr hlocks dX2_wholeOf_8 rfl
def m_X2_isHalves (x0 : Int64) : Bool := if (m_X2_isZero x0) = true then true else (if ((m_X0_mantissaOf x0) &&& ((zlshl 1 (-((m_X0_scaleOf x0) + 1))) - 1)) = 0 then true else false)
set_option maxRecDepth 20000 in
theorem c_X2_isHalves (l : Launch) (x0 : Int64) : Pm l yX2_isHalves cX2_isHalves 4 (some FieldType.boolean) 2 [.long x0] (some (.int (bI (m_X2_isHalves x0)))) := by
  refine Pm.of (by decide) (Nat.le_of_ble_eq_true rfl) ?_
  intro zp ze s zm args below zmeth zc hx hb hr hml hown hts hlocks ls hl
  have hl : lv_has ls 4 [(0, .long x0)] := hl
  refine lv_lconst (v := 1) hx hb dX2_isHalves_0 (by decide) ?_
  refine lv_lload_n hx hb dX2_isHalves_1 rfl (lv_at hl 0 rfl) ?_
  refine zp_call hx hb hml hown hts k_X2_45 (c_X0_scaleOf l x0) ⟨by decide, by decide⟩ rfl hl.1 [.long 1] rfl (Nat.le_of_ble_eq_true rfl) dX2_isHalves_2 ⟨by decide, by decide⟩ ?_
  refine lv_iconst (v := 1) hx hb dX2_isHalves_5 (by decide) ?_
  refine lv_iadd hx hb dX2_isHalves_6 ?_
  refine lv_ineg hx hb dX2_isHalves_7 ?_
  refine lv_lshl hx hb dX2_isHalves_8 rfl ?_
  refine lv_lconst (v := 1) hx hb dX2_isHalves_9 (by decide) ?_
  refine lv_lsub hx hb dX2_isHalves_10 ?_
  refine lv_lstore_n (lv' := [(2, .long ((zlshl 1 (-((m_X0_scaleOf x0) + 1))) - 1)), (0, .long x0)]) hx hb dX2_isHalves_11 rfl hl (by decide) rfl (fun ls hl => ?_)
  refine lv_lload_n hx hb dX2_isHalves_12 rfl (lv_at hl 1 rfl) ?_
  refine zp_call hx hb hml hown hts k_X2_36 (c_X2_isZero l x0) ⟨by decide, by decide⟩ rfl hl.1 [] rfl (Nat.le_of_ble_eq_true rfl) dX2_isHalves_13 ⟨by decide, by decide⟩ ?_
  refine zb_ne (tgt := 30) hx hb dX2_isHalves_16 (by decide) (fun h1 => ?_) (fun h1 => ?_)
  · refine lv_iconst (v := 1) hx hb dX2_isHalves_30 (by decide) ?_
    refine lv_goto (tgt := 35) hx hb dX2_isHalves_31 (by decide) ?_
    exact zp_zret hx hb hr hlocks dX2_isHalves_35 (zifB_pos h1 rfl)
  · refine lv_lload_n hx hb dX2_isHalves_19 rfl (lv_at hl 1 rfl) ?_
    refine zp_call hx hb hml hown hts k_X2_40 (c_X0_mantissaOf l x0) ⟨by decide, by decide⟩ rfl hl.1 [] rfl (Nat.le_of_ble_eq_true rfl) dX2_isHalves_20 ⟨by decide, by decide⟩ ?_
    refine lv_lload_n hx hb dX2_isHalves_23 rfl (lv_at hl 0 rfl) ?_
    refine lv_land hx hb dX2_isHalves_24 ?_
    refine lv_lconst (v := 0) hx hb dX2_isHalves_25 (by decide) ?_
    refine zl_ne (tgt := 34) hx hb dX2_isHalves_26 dX2_isHalves_27 (by decide) (fun h2 => ?_) (fun h2 => ?_)
    · refine lv_iconst (v := 0) hx hb dX2_isHalves_34 (by decide) ?_
      exact zp_zret hx hb hr hlocks dX2_isHalves_35 (zifB_neg (zbf h1) (zifB_neg h2 rfl))
    · refine lv_iconst (v := 1) hx hb dX2_isHalves_30 (by decide) ?_
      refine lv_goto (tgt := 35) hx hb dX2_isHalves_31 (by decide) ?_
      exact zp_zret hx hb hr hlocks dX2_isHalves_35 (zifB_neg (zbf h1) (zifB_pos h2 rfl))
def m_X2_twice (x0 : Int64) : Int64 := if (m_X2_isZero x0) = true then x0 else (x0 + 4503599627370496)
set_option maxRecDepth 20000 in
theorem c_X2_twice (l : Launch) (x0 : Int64) : Pm l yX2_twice cX2_twice 2 (some FieldType.long) 2 [.long x0] (some (.long (m_X2_twice x0))) := by
  refine Pm.of (by decide) (Nat.le_of_ble_eq_true rfl) ?_
  intro zp ze s zm args below zmeth zc hx hb hr hml hown hts hlocks ls hl
  have hl : lv_has ls 2 [(0, .long x0)] := hl
  refine lv_lload_n hx hb dX2_twice_0 rfl (lv_at hl 0 rfl) ?_
  refine zp_call hx hb hml hown hts k_X2_36 (c_X2_isZero l x0) ⟨by decide, by decide⟩ rfl hl.1 [] rfl (Nat.le_of_ble_eq_true rfl) dX2_twice_1 ⟨by decide, by decide⟩ ?_
  refine zb_eq (tgt := 11) hx hb dX2_twice_4 (by decide) (fun h1 => ?_) (fun h1 => ?_)
  · refine lv_lload_n hx hb dX2_twice_11 rfl (lv_at hl 0 rfl) ?_
    refine lv_ldc2 hx hb hown (hts _ u250) dX2_twice_12 ?_
    refine lv_ladd hx hb dX2_twice_15 ?_
    exact zp_lret hx hb hr hlocks dX2_twice_16 (zif_neg (zbf h1) rfl)
  · refine lv_lload_n hx hb dX2_twice_7 rfl (lv_at hl 0 rfl) ?_
    refine lv_goto (tgt := 16) hx hb dX2_twice_8 (by decide) ?_
    exact zp_lret hx hb hr hlocks dX2_twice_16 (zif_pos h1 rfl)
def m_X3_isOpposite (x0 : Int64) (x1 : Int64) : Bool := if x1 = (x0 ^^^ (-9223372036854775808)) then true else false
set_option maxRecDepth 20000 in
theorem c_X3_isOpposite (l : Launch) (x0 : Int64) (x1 : Int64) : Pm l yX3_isOpposite cX3_isOpposite 4 (some FieldType.boolean) 0 [.long x0, .long x1] (some (.int (bI (m_X3_isOpposite x0 x1)))) := by
  refine Pm.of (by decide) (Nat.le_of_ble_eq_true rfl) ?_
  intro zp ze s zm args below zmeth zc hx hb hr hml hown hts hlocks ls hl
  have hl : lv_has ls 4 [(0, .long x0), (2, .long x1)] := hl
  refine lv_lload_n hx hb dX3_isOpposite_0 rfl (lv_at hl 1 rfl) ?_
  refine lv_lload_n hx hb dX3_isOpposite_1 rfl (lv_at hl 0 rfl) ?_
  refine lv_ldc2 hx hb hown (hts _ u233) dX3_isOpposite_2 ?_
  refine lv_lxor hx hb dX3_isOpposite_5 ?_
  refine zl_ne (tgt := 14) hx hb dX3_isOpposite_6 dX3_isOpposite_7 (by decide) (fun h1 => ?_) (fun h1 => ?_)
  · refine lv_iconst (v := 0) hx hb dX3_isOpposite_14 (by decide) ?_
    exact zp_zret hx hb hr hlocks dX3_isOpposite_15 (zifB_neg h1 rfl)
  · refine lv_iconst (v := 1) hx hb dX3_isOpposite_10 (by decide) ?_
    refine lv_goto (tgt := 15) hx hb dX3_isOpposite_11 (by decide) ?_
    exact zp_zret hx hb hr hlocks dX3_isOpposite_15 (zifB_pos h1 rfl)
def m_X3_isTwice (x0 : Int64) (x1 : Int64) : Bool := if x1 = (m_X2_twice x0) then true else false
set_option maxRecDepth 20000 in
theorem c_X3_isTwice (l : Launch) (x0 : Int64) (x1 : Int64) : Pm l yX3_isTwice cX3_isTwice 4 (some FieldType.boolean) 3 [.long x0, .long x1] (some (.int (bI (m_X3_isTwice x0 x1)))) := by
  refine Pm.of (by decide) (Nat.le_of_ble_eq_true rfl) ?_
  intro zp ze s zm args below zmeth zc hx hb hr hml hown hts hlocks ls hl
  have hl : lv_has ls 4 [(0, .long x0), (2, .long x1)] := hl
  refine lv_lload_n hx hb dX3_isTwice_0 rfl (lv_at hl 1 rfl) ?_
  refine lv_lload_n hx hb dX3_isTwice_1 rfl (lv_at hl 0 rfl) ?_
  refine zp_call hx hb hml hown hts k_X3_89 (c_X2_twice l x0) ⟨by decide, by decide⟩ rfl hl.1 [.long x1] rfl (Nat.le_of_ble_eq_true rfl) dX3_isTwice_2 ⟨by decide, by decide⟩ ?_
  refine zl_ne (tgt := 13) hx hb dX3_isTwice_5 dX3_isTwice_6 (by decide) (fun h1 => ?_) (fun h1 => ?_)
  · refine lv_iconst (v := 0) hx hb dX3_isTwice_13 (by decide) ?_
    exact zp_zret hx hb hr hlocks dX3_isTwice_14 (zifB_neg h1 rfl)
  · refine lv_iconst (v := 1) hx hb dX3_isTwice_9 (by decide) ?_
    refine lv_goto (tgt := 14) hx hb dX3_isTwice_10 (by decide) ?_
    exact zp_zret hx hb hr hlocks dX3_isTwice_14 (zifB_pos h1 rfl)
def m_X3_isOrdered (x0 : Int32) (x1 : Int64) (x2 : Int32) (x3 : Int64) : Bool := if (m_X5_signedOf x2) ≤ (m_X5_signedOf x0) then true else (if (m_X2_isLess x1 x3) = true then true else false)
set_option maxRecDepth 20000 in
theorem c_X3_isOrdered (l : Launch) (x0 : Int32) (x1 : Int64) (x2 : Int32) (x3 : Int64) : Pm l yX3_isOrdered cX3_isOrdered 6 (some FieldType.boolean) 3 [.int x0, .long x1, .int x2, .long x3] (some (.int (bI (m_X3_isOrdered x0 x1 x2 x3)))) := by
  refine Pm.of (by decide) (Nat.le_of_ble_eq_true rfl) ?_
  intro zp ze s zm args below zmeth zc hx hb hr hml hown hts hlocks ls hl
  have hl : lv_has ls 6 [(0, .int x0), (1, .long x1), (3, .int x2), (4, .long x3)] := hl
  refine lv_iload_n hx hb dX3_isOrdered_0 rfl (lv_at hl 0 rfl) ?_
  refine zp_call hx hb hml hown hts k_X3_124 (c_X5_signedOf l x0) ⟨by decide, by decide⟩ rfl hl.1 [] rfl (Nat.le_of_ble_eq_true rfl) dX3_isOrdered_1 ⟨by decide, by decide⟩ ?_
  refine lv_iload_n hx hb dX3_isOrdered_4 rfl (lv_at hl 2 rfl) ?_
  refine zp_call hx hb hml hown hts k_X3_124 (c_X5_signedOf l x2) ⟨by decide, by decide⟩ rfl hl.1 [.int (m_X5_signedOf x0)] rfl (Nat.le_of_ble_eq_true rfl) dX3_isOrdered_5 ⟨by decide, by decide⟩ ?_
  refine lv_icmp_ge (tgt := 20) hx hb dX3_isOrdered_8 (by decide) (fun h1 => ?_) (fun h1 => ?_)
  · refine lv_iconst (v := 1) hx hb dX3_isOrdered_20 (by decide) ?_
    refine lv_goto (tgt := 25) hx hb dX3_isOrdered_21 (by decide) ?_
    exact zp_zret hx hb hr hlocks dX3_isOrdered_25 (zifB_pos h1 rfl)
  · refine lv_lload_n hx hb dX3_isOrdered_11 rfl (lv_at hl 1 rfl) ?_
    refine lv_lload hx hb dX3_isOrdered_12 (lv_at hl 3 rfl) ?_
    refine zp_call hx hb hml hown hts k_X3_127 (c_X2_isLess l x1 x3) ⟨by decide, by decide⟩ rfl hl.1 [] rfl (Nat.le_of_ble_eq_true rfl) dX3_isOrdered_14 ⟨by decide, by decide⟩ ?_
    refine zb_eq (tgt := 24) hx hb dX3_isOrdered_17 (by decide) (fun h2 => ?_) (fun h2 => ?_)
    · refine lv_iconst (v := 0) hx hb dX3_isOrdered_24 (by decide) ?_
      exact zp_zret hx hb hr hlocks dX3_isOrdered_25 (zifB_neg h1 (zifB_neg (zbf h2) rfl))
    · refine lv_iconst (v := 1) hx hb dX3_isOrdered_20 (by decide) ?_
      refine lv_goto (tgt := 25) hx hb dX3_isOrdered_21 (by decide) ?_
      exact zp_zret hx hb hr hlocks dX3_isOrdered_25 (zifB_neg h1 (zifB_pos h2 rfl))
def m_X3_inSmallParts (x0 : Int64) : Int64 := zlshl (m_X0_mantissaOf x0) ((m_X0_scaleOf x0) + 53)
set_option maxRecDepth 20000 in
theorem c_X3_inSmallParts (l : Launch) (x0 : Int64) : Pm l yX3_inSmallParts cX3_inSmallParts 2 (some FieldType.long) 1 [.long x0] (some (.long (m_X3_inSmallParts x0))) := by
  refine Pm.of (by decide) (Nat.le_of_ble_eq_true rfl) ?_
  intro zp ze s zm args below zmeth zc hx hb hr hml hown hts hlocks ls hl
  have hl : lv_has ls 2 [(0, .long x0)] := hl
  refine lv_lload_n hx hb dX3_inSmallParts_0 rfl (lv_at hl 0 rfl) ?_
  refine zp_call hx hb hml hown hts k_X3_101 (c_X0_mantissaOf l x0) ⟨by decide, by decide⟩ rfl hl.1 [] rfl (Nat.le_of_ble_eq_true rfl) dX3_inSmallParts_1 ⟨by decide, by decide⟩ ?_
  refine lv_lload_n hx hb dX3_inSmallParts_4 rfl (lv_at hl 0 rfl) ?_
  refine zp_call hx hb hml hown hts k_X3_96 (c_X0_scaleOf l x0) ⟨by decide, by decide⟩ rfl hl.1 [.long (m_X0_mantissaOf x0)] rfl (Nat.le_of_ble_eq_true rfl) dX3_inSmallParts_5 ⟨by decide, by decide⟩ ?_
  refine lv_bipush (v := 53) hx hb dX3_inSmallParts_8 (by decide) ?_
  refine lv_iadd hx hb dX3_inSmallParts_10 ?_
  refine lv_lshl hx hb dX3_inSmallParts_11 rfl ?_
  exact zp_lret hx hb hr hlocks dX3_inSmallParts_12 rfl
def m_X3_isLessThanSum (x0 : Int64) (x1 : Int64) (x2 : Int64) : Bool := if (m_X3_inSmallParts x0) < ((m_X3_inSmallParts x1) + (m_X3_inSmallParts x2)) then true else false
set_option maxRecDepth 20000 in
theorem c_X3_isLessThanSum (l : Launch) (x0 : Int64) (x1 : Int64) (x2 : Int64) : Pm l yX3_isLessThanSum cX3_isLessThanSum 6 (some FieldType.boolean) 2 [.long x0, .long x1, .long x2] (some (.int (bI (m_X3_isLessThanSum x0 x1 x2)))) := by
  refine Pm.of (by decide) (Nat.le_of_ble_eq_true rfl) ?_
  intro zp ze s zm args below zmeth zc hx hb hr hml hown hts hlocks ls hl
  have hl : lv_has ls 6 [(0, .long x0), (2, .long x1), (4, .long x2)] := hl
  refine lv_lload_n hx hb dX3_isLessThanSum_0 rfl (lv_at hl 0 rfl) ?_
  refine zp_call hx hb hml hown hts k_X3_142 (c_X3_inSmallParts l x0) ⟨by decide, by decide⟩ rfl hl.1 [] rfl (Nat.le_of_ble_eq_true rfl) dX3_isLessThanSum_1 ⟨by decide, by decide⟩ ?_
  refine lv_lload_n hx hb dX3_isLessThanSum_4 rfl (lv_at hl 1 rfl) ?_
  refine zp_call hx hb hml hown hts k_X3_142 (c_X3_inSmallParts l x1) ⟨by decide, by decide⟩ rfl hl.1 [.long (m_X3_inSmallParts x0)] rfl (Nat.le_of_ble_eq_true rfl) dX3_isLessThanSum_5 ⟨by decide, by decide⟩ ?_
  refine lv_lload hx hb dX3_isLessThanSum_8 (lv_at hl 2 rfl) ?_
  refine zp_call hx hb hml hown hts k_X3_142 (c_X3_inSmallParts l x2) ⟨by decide, by decide⟩ rfl hl.1 [.long (m_X3_inSmallParts x1), .long (m_X3_inSmallParts x0)] rfl (Nat.le_of_ble_eq_true rfl) dX3_isLessThanSum_10 ⟨by decide, by decide⟩ ?_
  refine lv_ladd hx hb dX3_isLessThanSum_13 ?_
  refine zl_ge (tgt := 22) hx hb dX3_isLessThanSum_14 dX3_isLessThanSum_15 (by decide) (fun h1 => ?_) (fun h1 => ?_)
  · refine lv_iconst (v := 0) hx hb dX3_isLessThanSum_22 (by decide) ?_
    exact zp_zret hx hb hr hlocks dX3_isLessThanSum_23 (zifB_neg h1 rfl)
  · refine lv_iconst (v := 1) hx hb dX3_isLessThanSum_18 (by decide) ?_
    refine lv_goto (tgt := 23) hx hb dX3_isLessThanSum_19 (by decide) ?_
    exact zp_zret hx hb hr hlocks dX3_isLessThanSum_23 (zifB_pos h1 rfl)
def m_X3_isFine (x0 : Int32) (x1 : Int64) : Bool := if (zlshl (Int32.toInt64 x0) 27) < (((Int32.toInt64 (m_X2_fineOf x1)) * (Int32.toInt64 (m_X2_fineOf x1))) * (Int32.toInt64 (m_X2_fineOf x1))) then false else (if (zlshl (Int32.toInt64 x0) 27) < ((((Int32.toInt64 (m_X2_fineOf x1)) + 1) * ((Int32.toInt64 (m_X2_fineOf x1)) + 1)) * ((Int32.toInt64 (m_X2_fineOf x1)) + 1)) then true else false)
set_option maxRecDepth 20000 in
theorem c_X3_isFine (l : Launch) (x0 : Int32) (x1 : Int64) : Pm l yX3_isFine cX3_isFine 7 (some FieldType.boolean) 3 [.int x0, .long x1] (some (.int (bI (m_X3_isFine x0 x1)))) := by
  refine Pm.of (by decide) (Nat.le_of_ble_eq_true rfl) ?_
  intro zp ze s zm args below zmeth zc hx hb hr hml hown hts hlocks ls hl
  have hl : lv_has ls 7 [(0, .int x0), (1, .long x1)] := hl
  refine lv_lload_n hx hb dX3_isFine_0 rfl (lv_at hl 1 rfl) ?_
  refine zp_call hx hb hml hown hts k_X3_121 (c_X2_fineOf l x1) ⟨by decide, by decide⟩ rfl hl.1 [] rfl (Nat.le_of_ble_eq_true rfl) dX3_isFine_1 ⟨by decide, by decide⟩ ?_
  refine lv_i2l hx hb dX3_isFine_4 rfl ?_
  refine lv_lstore_n (lv' := [(3, .long (Int32.toInt64 (m_X2_fineOf x1))), (0, .int x0), (1, .long x1)]) hx hb dX3_isFine_5 rfl hl (by decide) rfl (fun ls hl => ?_)
  refine lv_iload_n hx hb dX3_isFine_6 rfl (lv_at hl 1 rfl) ?_
  refine lv_i2l hx hb dX3_isFine_7 rfl ?_
  refine lv_bipush (v := 27) hx hb dX3_isFine_8 (by decide) ?_
  refine lv_lshl hx hb dX3_isFine_10 rfl ?_
  refine lv_lstore (lv' := [(5, .long (zlshl (Int32.toInt64 x0) 27)), (3, .long (Int32.toInt64 (m_X2_fineOf x1))), (0, .int x0), (1, .long x1)]) hx hb dX3_isFine_11 hl (by decide) rfl (fun ls hl => ?_)
  refine lv_lload_n hx hb dX3_isFine_13 rfl (lv_at hl 1 rfl) ?_
  refine lv_lload_n hx hb dX3_isFine_14 rfl (lv_at hl 1 rfl) ?_
  refine lv_lmul hx hb dX3_isFine_15 ?_
  refine lv_lload_n hx hb dX3_isFine_16 rfl (lv_at hl 1 rfl) ?_
  refine lv_lmul hx hb dX3_isFine_17 ?_
  refine lv_lload hx hb dX3_isFine_18 (lv_at hl 0 rfl) ?_
  refine zl_gt (tgt := 45) hx hb dX3_isFine_20 dX3_isFine_21 (by decide) (fun h1 => ?_) (fun h1 => ?_)
  · refine lv_iconst (v := 0) hx hb dX3_isFine_45 (by decide) ?_
    exact zp_zret hx hb hr hlocks dX3_isFine_46 (zifB_pos h1 rfl)
  · refine lv_lload_n hx hb dX3_isFine_24 rfl (lv_at hl 1 rfl) ?_
    refine lv_lconst (v := 1) hx hb dX3_isFine_25 (by decide) ?_
    refine lv_ladd hx hb dX3_isFine_26 ?_
    refine lv_lload_n hx hb dX3_isFine_27 rfl (lv_at hl 1 rfl) ?_
    refine lv_lconst (v := 1) hx hb dX3_isFine_28 (by decide) ?_
    refine lv_ladd hx hb dX3_isFine_29 ?_
    refine lv_lmul hx hb dX3_isFine_30 ?_
    refine lv_lload_n hx hb dX3_isFine_31 rfl (lv_at hl 1 rfl) ?_
    refine lv_lconst (v := 1) hx hb dX3_isFine_32 (by decide) ?_
    refine lv_ladd hx hb dX3_isFine_33 ?_
    refine lv_lmul hx hb dX3_isFine_34 ?_
    refine lv_lload hx hb dX3_isFine_35 (lv_at hl 0 rfl) ?_
    refine zl_le (tgt := 45) hx hb dX3_isFine_37 dX3_isFine_38 (by decide) (fun h2 => ?_) (fun h2 => ?_)
    · refine lv_iconst (v := 0) hx hb dX3_isFine_45 (by decide) ?_
      exact zp_zret hx hb hr hlocks dX3_isFine_46 (zifB_neg h1 (zifB_neg h2 rfl))
    · refine lv_iconst (v := 1) hx hb dX3_isFine_41 (by decide) ?_
      refine lv_goto (tgt := 46) hx hb dX3_isFine_42 (by decide) ?_
      exact zp_zret hx hb hr hlocks dX3_isFine_46 (zifB_neg h1 (zifB_pos h2 rfl))
def m_X8_is (x0 : Int32) : Bool := if x0 < 0 then false else (if 8 ≤ x0 then false else true)
set_option maxRecDepth 20000 in
theorem c_X8_is (l : Launch) (x0 : Int32) : Pm l yX8_is cX8_is 1 (some FieldType.boolean) 0 [.int x0] (some (.int (bI (m_X8_is x0)))) := by
  refine Pm.of (by decide) (Nat.le_of_ble_eq_true rfl) ?_
  intro zp ze s zm args below zmeth zc hx hb hr hml hown hts hlocks ls hl
  have hl : lv_has ls 1 [(0, .int x0)] := hl
  refine lv_iload_n hx hb dX8_is_0 rfl (lv_at hl 0 rfl) ?_
  refine lv_if_lt (tgt := 14) hx hb dX8_is_1 (by decide) (fun h1 => ?_) (fun h1 => ?_)
  · refine lv_iconst (v := 0) hx hb dX8_is_14 (by decide) ?_
    exact zp_zret hx hb hr hlocks dX8_is_15 (zifB_pos h1 rfl)
  · refine lv_iload_n hx hb dX8_is_4 rfl (lv_at hl 0 rfl) ?_
    refine lv_bipush (v := 8) hx hb dX8_is_5 (by decide) ?_
    refine lv_icmp_ge (tgt := 14) hx hb dX8_is_7 (by decide) (fun h2 => ?_) (fun h2 => ?_)
    · refine lv_iconst (v := 0) hx hb dX8_is_14 (by decide) ?_
      exact zp_zret hx hb hr hlocks dX8_is_15 (zifB_neg h1 (zifB_pos h2 rfl))
    · refine lv_iconst (v := 1) hx hb dX8_is_10 (by decide) ?_
      refine lv_goto (tgt := 15) hx hb dX8_is_11 (by decide) ?_
      exact zp_zret hx hb hr hlocks dX8_is_15 (zifB_neg h1 (zifB_neg h2 rfl))
def m_X8_eighthsOf (x0 : Int32) (x1 : Bool) : Int32 := if x1 = true then x0 else (8 * x0)
set_option maxRecDepth 20000 in
theorem c_X8_eighthsOf (l : Launch) (x0 : Int32) (x1 : Bool) : Pm l yX8_eighthsOf cX8_eighthsOf 2 (some FieldType.int) 0 [.int x0, .int (bI x1)] (some (.int (m_X8_eighthsOf x0 x1))) := by
  refine Pm.of (by decide) (Nat.le_of_ble_eq_true rfl) ?_
  intro zp ze s zm args below zmeth zc hx hb hr hml hown hts hlocks ls hl
  have hl : lv_has ls 2 [(0, .int x0), (1, .int (bI x1))] := hl
  refine lv_iload_n hx hb dX8_eighthsOf_0 rfl (lv_at hl 1 rfl) ?_
  refine zb_eq (tgt := 8) hx hb dX8_eighthsOf_1 (by decide) (fun h1 => ?_) (fun h1 => ?_)
  · refine lv_bipush (v := 8) hx hb dX8_eighthsOf_8 (by decide) ?_
    refine lv_iload_n hx hb dX8_eighthsOf_10 rfl (lv_at hl 0 rfl) ?_
    refine lv_imul hx hb dX8_eighthsOf_11 ?_
    exact zp_iret hx hb hr hlocks dX8_eighthsOf_12 (zif_neg (zbf h1) rfl)
  · refine lv_iload_n hx hb dX8_eighthsOf_4 rfl (lv_at hl 0 rfl) ?_
    refine lv_goto (tgt := 12) hx hb dX8_eighthsOf_5 (by decide) ?_
    exact zp_iret hx hb hr hlocks dX8_eighthsOf_12 (zif_pos h1 rfl)
