/-! The reference: doubles, bits, the sum over all, its making. -/
def shF (tw : Nat → Nat) (n : Nat) : UInt32 := if n = 0 then FP.fconst0 else FP.fdiv (FP.i2f (nI (fN (eig (tw (n - 1)))))) (FP.i2f (nI (htN tw n)))
/-- the sums: a place, a cube of the tower -/
def ckP (a : Int64) (v : Nat) : Int64 := 31 * (31 * (31 * a + Int32.toInt64 (sgI v)) + lN (v % 4)) + Int32.toInt64 (fI v)
def ckY (yv : Nat → Nat) : Nat → Int64
  | 0 => 7
  | i + 1 => ckP (ckY yv i) (yv i)
def ckC (a : Int64) (v : Nat) : Int64 := 31 * (31 * a + lN (eig v)) + (if isE v = true then 1 else 0)
def ckT (a : Int64) (tw : Nat → Nat) : Nat → Int64
  | 0 => a
  | i + 1 => ckC (ckT a tw i) (tw i)
def ckA (yv tw : Nat → Nat) (n : Nat) : Int64 := ckT (31 * ckY yv 8 + lN n) tw n
theorem kd4 {v : Nat} {b e : Bool} (h1 : isB v = b) (h2 : isE v = e) : lN (v % 4) = (if b = true then 2 else 0) + (if e = true then 1 else 0) := by
  subst h1
  subst h2
  unfold isB isE
  have h : v % 4 = 0 ∨ v % 4 = 1 ∨ v % 4 = 2 ∨ v % 4 = 3 := by omega
  rcases h with h | h | h | h
  · rw [h, show v / 2 % 2 = 0 by omega, show v % 2 = 0 by omega]; decide
  · rw [h, show v / 2 % 2 = 0 by omega, show v % 2 = 1 by omega]; decide
  · rw [h, show v / 2 % 2 = 1 by omega, show v % 2 = 0 by omega]; decide
  · rw [h, show v / 2 % 2 = 1 by omega, show v % 2 = 1 by omega]; decide
set_option maxRecDepth 20000 in
theorem c_X8_coarse_ok (l : Launch) (D : va_G) (T : Nat → ClassId) (q a1 a2 a3 a4 a5 : Nat) (yv tw : Nat → Nat) (n0 : Nat) (nc : Int32) (ne : Bool) (th : Int32) (p : Nat) (hp : p < 8) (hy : ∀ k, yv k < 262144) : Hm l yX8_coarse cX8_coarse 2 (some FieldType.double) 3 0 0 D T [.ref q, .int (nI p)] [(q, .inr (4, [.ref a1, .ref a2, .ref a3, .ref a4, .ref a5, .int (nI n0), .int nc, .int (bI ne), .int th])), (a1, .inl (T 0, 8, .inl (fun k => nI (yv k / 4)))), (a2, .inl (T 2, 8, .inl (fun k => bI (isE (yv k))))), (a3, .inl (T 2, 8, .inl (fun k => bI (isB (yv k))))), (a4, .inl (T 0, 60, .inl (fun k => nI (tw k / 4)))), (a5, .inl (T 2, 60, .inl (fun k => bI (isE (tw k)))))] (some (.double (FP.ddiv (FP.i2d (fI (yv p))) 4652218415073722368))) (fun _ : Unit => [(q, .inr (4, [.ref a1, .ref a2, .ref a3, .ref a4, .ref a5, .int (nI n0), .int nc, .int (bI ne), .int 0])), (a1, .inl (T 0, 8, .inl (fun k => nI (yv k / 4)))), (a2, .inl (T 2, 8, .inl (fun k => bI (isE (yv k))))), (a3, .inl (T 2, 8, .inl (fun k => bI (isB (yv k))))), (a4, .inl (T 0, 60, .inl (fun k => nI (tw k / 4)))), (a5, .inl (T 2, 60, .inl (fun k => bI (isE (tw k)))))]) := by
  refine Hm.of (by decide) (Nat.le_of_ble_eq_true rfl) ?_
  intro zp ze s zm args below zmeth zc hx hb hr hml hown hin hts hlocks A hA hP hK hD hS ls hl
  have hl : lv_has ls 2 [(0, .ref q), (1, .int (nI p))] := hl
  refine lv_aload_n hx hb dX8_coarse_0 rfl (lv_at hl 0 rfl) ?_
  refine lv_iload_n hx hb dX8_coarse_1 rfl (lv_at hl 1 rfl) ?_
  refine zh_v (T := T) hx hb hml hown hts k_X8_69 (c_X8_isPlace_ok l D T q a1 a2 a3 a4 a5 yv tw n0 nc ne th p hp) ⟨by decide, by decide⟩ rfl hl.1 [] rfl (Nat.le_of_ble_eq_true rfl) dX8_coarse_2 ⟨Nat.le_of_ble_eq_true rfl, Nat.le_of_ble_eq_true rfl⟩ hK hP hD hS hA (ci := 4) rfl rfl rfl [0, 1, 2, 3, 4, 5] [] (wr := []) rfl rfl (by decide) (by decide) (by decide) [0, 1, 2, 3, 4, 5] (fun _ => [(q, .inr (4, [.ref a1, .ref a2, .ref a3, .ref a4, .ref a5, .int (nI n0), .int nc, .int (bI ne), .int 0])), (a1, .inl (T 0, 8, .inl (fun k => nI (yv k / 4)))), (a2, .inl (T 2, 8, .inl (fun k => bI (isE (yv k))))), (a3, .inl (T 2, 8, .inl (fun k => bI (isB (yv k))))), (a4, .inl (T 0, 60, .inl (fun k => nI (tw k / 4)))), (a5, .inl (T 2, 60, .inl (fun k => bI (isE (tw k)))))]) (by decide) (fun _ => rfl) (fun _ H locs hP hD hS => ?_)
  have hP : va_P D zcl [(q, .inr (4, [.ref a1, .ref a2, .ref a3, .ref a4, .ref a5, .int (nI n0), .int nc, .int (bI ne), .int 0])), (a1, .inl (T 0, 8, .inl (fun k => nI (yv k / 4)))), (a2, .inl (T 2, 8, .inl (fun k => bI (isE (yv k))))), (a3, .inl (T 2, 8, .inl (fun k => bI (isB (yv k))))), (a4, .inl (T 0, 60, .inl (fun k => nI (tw k / 4)))), (a5, .inl (T 2, 60, .inl (fun k => bI (isE (tw k)))))] H := hP
  have hD : va_D A [(q, .inr (4, [.ref a1, .ref a2, .ref a3, .ref a4, .ref a5, .int (nI n0), .int nc, .int (bI ne), .int 0])), (a1, .inl (T 0, 8, .inl (fun k => nI (yv k / 4)))), (a2, .inl (T 2, 8, .inl (fun k => bI (isE (yv k))))), (a3, .inl (T 2, 8, .inl (fun k => bI (isB (yv k))))), (a4, .inl (T 0, 60, .inl (fun k => nI (tw k / 4)))), (a5, .inl (T 2, 60, .inl (fun k => bI (isE (tw k)))))] := hD
  refine zb_eq (tgt := 21) hx hb dX8_coarse_5 (by decide) (fun h1 => ?_) (fun h1 => ?_)
  · exact absurd h1 (by decide)
  · refine lv_aload_n hx hb dX8_coarse_8 rfl (lv_at hl 0 rfl) ?_
    refine lv_iload_n hx hb dX8_coarse_9 rfl (lv_at hl 1 rfl) ?_
    refine zh_v (T := T) hx hb hml hown hts k_X8_66 (c_X8_fineAt l D T q a1 a2 a3 a4 a5 yv tw n0 nc ne 0 p hp hy) ⟨by decide, by decide⟩ rfl hl.1 [] rfl (Nat.le_of_ble_eq_true rfl) dX8_coarse_10 ⟨Nat.le_of_ble_eq_true rfl, Nat.le_of_ble_eq_true rfl⟩ hK hP hD hS hA (ci := 4) rfl rfl rfl [0, 1, 2, 3, 4, 5] [] (wr := []) rfl rfl (by decide) (by decide) (by decide) [0, 1, 2, 3, 4, 5] (fun _ => [(q, .inr (4, [.ref a1, .ref a2, .ref a3, .ref a4, .ref a5, .int (nI n0), .int nc, .int (bI ne), .int 0])), (a1, .inl (T 0, 8, .inl (fun k => nI (yv k / 4)))), (a2, .inl (T 2, 8, .inl (fun k => bI (isE (yv k))))), (a3, .inl (T 2, 8, .inl (fun k => bI (isB (yv k))))), (a4, .inl (T 0, 60, .inl (fun k => nI (tw k / 4)))), (a5, .inl (T 2, 60, .inl (fun k => bI (isE (tw k)))))]) (by decide) (fun _ => rfl) (fun _ H locs hP hD hS => ?_)
    have hP : va_P D zcl [(q, .inr (4, [.ref a1, .ref a2, .ref a3, .ref a4, .ref a5, .int (nI n0), .int nc, .int (bI ne), .int 0])), (a1, .inl (T 0, 8, .inl (fun k => nI (yv k / 4)))), (a2, .inl (T 2, 8, .inl (fun k => bI (isE (yv k))))), (a3, .inl (T 2, 8, .inl (fun k => bI (isB (yv k))))), (a4, .inl (T 0, 60, .inl (fun k => nI (tw k / 4)))), (a5, .inl (T 2, 60, .inl (fun k => bI (isE (tw k)))))] H := hP
    have hD : va_D A [(q, .inr (4, [.ref a1, .ref a2, .ref a3, .ref a4, .ref a5, .int (nI n0), .int nc, .int (bI ne), .int 0])), (a1, .inl (T 0, 8, .inl (fun k => nI (yv k / 4)))), (a2, .inl (T 2, 8, .inl (fun k => bI (isE (yv k))))), (a3, .inl (T 2, 8, .inl (fun k => bI (isB (yv k))))), (a4, .inl (T 0, 60, .inl (fun k => nI (tw k / 4)))), (a5, .inl (T 2, 60, .inl (fun k => bI (isE (tw k)))))] := hD
    refine lv_i2d hx hb dX8_coarse_13 ?_
    refine lv_ldc2d hx hb hown (hts _ u825) dX8_coarse_14 ?_
    refine lv_ddiv hx hb dX8_coarse_17 (nn_coarse _) ?_
    refine lv_goto (tgt := 22) hx hb dX8_coarse_18 (by decide) ?_
    exact zh_dret () hx hb hr hlocks dX8_coarse_22 hP hD hS (rfl) (rfl)
set_option maxRecDepth 20000 in
theorem c_X8_coarse_no (l : Launch) (D : va_G) (T : Nat → ClassId) (q a1 a2 a3 a4 a5 : Nat) (yv tw : Nat → Nat) (n0 : Nat) (nc : Int32) (ne : Bool) (th : Int32) (x : Int32) (hx0 : m_X8_is x = false) : Hm l yX8_coarse cX8_coarse 2 (some FieldType.double) 3 0 0 D T [.ref q, .int x] [(q, .inr (4, [.ref a1, .ref a2, .ref a3, .ref a4, .ref a5, .int (nI n0), .int nc, .int (bI ne), .int th])), (a1, .inl (T 0, 8, .inl (fun k => nI (yv k / 4)))), (a2, .inl (T 2, 8, .inl (fun k => bI (isE (yv k))))), (a3, .inl (T 2, 8, .inl (fun k => bI (isB (yv k))))), (a4, .inl (T 0, 60, .inl (fun k => nI (tw k / 4)))), (a5, .inl (T 2, 60, .inl (fun k => bI (isE (tw k)))))] (some (.double FP.dconst0)) (fun _ : Unit => [(q, .inr (4, [.ref a1, .ref a2, .ref a3, .ref a4, .ref a5, .int (nI n0), .int nc, .int (bI ne), .int 1])), (a1, .inl (T 0, 8, .inl (fun k => nI (yv k / 4)))), (a2, .inl (T 2, 8, .inl (fun k => bI (isE (yv k))))), (a3, .inl (T 2, 8, .inl (fun k => bI (isB (yv k))))), (a4, .inl (T 0, 60, .inl (fun k => nI (tw k / 4)))), (a5, .inl (T 2, 60, .inl (fun k => bI (isE (tw k)))))]) := by
  refine Hm.of (by decide) (Nat.le_of_ble_eq_true rfl) ?_
  intro zp ze s zm args below zmeth zc hx hb hr hml hown hin hts hlocks A hA hP hK hD hS ls hl
  have hl : lv_has ls 2 [(0, .ref q), (1, .int x)] := hl
  refine lv_aload_n hx hb dX8_coarse_0 rfl (lv_at hl 0 rfl) ?_
  refine lv_iload_n hx hb dX8_coarse_1 rfl (lv_at hl 1 rfl) ?_
  refine zh_v (T := T) hx hb hml hown hts k_X8_69 (c_X8_isPlace_no l D T q a1 a2 a3 a4 a5 yv tw n0 nc ne th x hx0) ⟨by decide, by decide⟩ rfl hl.1 [] rfl (Nat.le_of_ble_eq_true rfl) dX8_coarse_2 ⟨Nat.le_of_ble_eq_true rfl, Nat.le_of_ble_eq_true rfl⟩ hK hP hD hS hA (ci := 4) rfl rfl rfl [0, 1, 2, 3, 4, 5] [] (wr := []) rfl rfl (by decide) (by decide) (by decide) [0, 1, 2, 3, 4, 5] (fun _ => [(q, .inr (4, [.ref a1, .ref a2, .ref a3, .ref a4, .ref a5, .int (nI n0), .int nc, .int (bI ne), .int 1])), (a1, .inl (T 0, 8, .inl (fun k => nI (yv k / 4)))), (a2, .inl (T 2, 8, .inl (fun k => bI (isE (yv k))))), (a3, .inl (T 2, 8, .inl (fun k => bI (isB (yv k))))), (a4, .inl (T 0, 60, .inl (fun k => nI (tw k / 4)))), (a5, .inl (T 2, 60, .inl (fun k => bI (isE (tw k)))))]) (by decide) (fun _ => rfl) (fun _ H locs hP hD hS => ?_)
  have hP : va_P D zcl [(q, .inr (4, [.ref a1, .ref a2, .ref a3, .ref a4, .ref a5, .int (nI n0), .int nc, .int (bI ne), .int 1])), (a1, .inl (T 0, 8, .inl (fun k => nI (yv k / 4)))), (a2, .inl (T 2, 8, .inl (fun k => bI (isE (yv k))))), (a3, .inl (T 2, 8, .inl (fun k => bI (isB (yv k))))), (a4, .inl (T 0, 60, .inl (fun k => nI (tw k / 4)))), (a5, .inl (T 2, 60, .inl (fun k => bI (isE (tw k)))))] H := hP
  have hD : va_D A [(q, .inr (4, [.ref a1, .ref a2, .ref a3, .ref a4, .ref a5, .int (nI n0), .int nc, .int (bI ne), .int 1])), (a1, .inl (T 0, 8, .inl (fun k => nI (yv k / 4)))), (a2, .inl (T 2, 8, .inl (fun k => bI (isE (yv k))))), (a3, .inl (T 2, 8, .inl (fun k => bI (isB (yv k))))), (a4, .inl (T 0, 60, .inl (fun k => nI (tw k / 4)))), (a5, .inl (T 2, 60, .inl (fun k => bI (isE (tw k)))))] := hD
  refine zb_eq (tgt := 21) hx hb dX8_coarse_5 (by decide) (fun h1 => ?_) (fun h1 => ?_)
  · refine lv_dconst0 hx hb dX8_coarse_21 ?_
    exact zh_dret () hx hb hr hlocks dX8_coarse_22 hP hD hS (rfl) (rfl)
  · exact absurd h1 (by decide)
set_option maxRecDepth 20000 in
theorem c_X8_upperShare_0 (l : Launch) (D : va_G) (T : Nat → ClassId) (q a1 a2 a3 a4 a5 : Nat) (yv tw : Nat → Nat) (n0 : Nat) (nc : Int32) (ne : Bool) (th : Int32) (hn : n0 = 0) : Hm l yX8_upperShare cX8_upperShare 1 (some FieldType.float) 4 0 0 D T [.ref q] [(q, .inr (4, [.ref a1, .ref a2, .ref a3, .ref a4, .ref a5, .int (nI n0), .int nc, .int (bI ne), .int th])), (a1, .inl (T 0, 8, .inl (fun k => nI (yv k / 4)))), (a2, .inl (T 2, 8, .inl (fun k => bI (isE (yv k))))), (a3, .inl (T 2, 8, .inl (fun k => bI (isB (yv k))))), (a4, .inl (T 0, 60, .inl (fun k => nI (tw k / 4)))), (a5, .inl (T 2, 60, .inl (fun k => bI (isE (tw k)))))] (some (.float (shF tw n0))) (fun _ : Unit => [(q, .inr (4, [.ref a1, .ref a2, .ref a3, .ref a4, .ref a5, .int (nI n0), .int nc, .int (bI ne), .int 0])), (a1, .inl (T 0, 8, .inl (fun k => nI (yv k / 4)))), (a2, .inl (T 2, 8, .inl (fun k => bI (isE (yv k))))), (a3, .inl (T 2, 8, .inl (fun k => bI (isB (yv k))))), (a4, .inl (T 0, 60, .inl (fun k => nI (tw k / 4)))), (a5, .inl (T 2, 60, .inl (fun k => bI (isE (tw k)))))]) := by
  refine Hm.of (by decide) (Nat.le_of_ble_eq_true rfl) ?_
  intro zp ze s zm args below zmeth zc hx hb hr hml hown hin hts hlocks A hA hP hK hD hS ls hl
  have hl : lv_has ls 1 [(0, .ref q)] := hl
  refine lv_aload_n hx hb dX8_upperShare_0 rfl (lv_at hl 0 rfl) ?_
  refine lv_iconst (v := 0) hx hb dX8_upperShare_1 (by decide) ?_
  refine va_put (D := D) (ci := 4) (v := .int 0) (ty := .int) (C := RX8) (T := TX8) (N := 9) hx hb hts i_X8 tyX8 tyX8_ok nmX8 hown hK hP hD hS 0 rfl rfl 8 (by decide) (hts _ u742) (fun _ h9 => h9) rfl (by decide +kernel) rfl rfl (Nat.le_of_ble_eq_true rfl) dX8_upperShare_2 (fun H locs hP hD hS => ?_)
  have hP : va_P D zcl [(q, .inr (4, [.ref a1, .ref a2, .ref a3, .ref a4, .ref a5, .int (nI n0), .int nc, .int (bI ne), .int 0])), (a1, .inl (T 0, 8, .inl (fun k => nI (yv k / 4)))), (a2, .inl (T 2, 8, .inl (fun k => bI (isE (yv k))))), (a3, .inl (T 2, 8, .inl (fun k => bI (isB (yv k))))), (a4, .inl (T 0, 60, .inl (fun k => nI (tw k / 4)))), (a5, .inl (T 2, 60, .inl (fun k => bI (isE (tw k)))))] H := hP
  have hD : va_D A [(q, .inr (4, [.ref a1, .ref a2, .ref a3, .ref a4, .ref a5, .int (nI n0), .int nc, .int (bI ne), .int 0])), (a1, .inl (T 0, 8, .inl (fun k => nI (yv k / 4)))), (a2, .inl (T 2, 8, .inl (fun k => bI (isE (yv k))))), (a3, .inl (T 2, 8, .inl (fun k => bI (isB (yv k))))), (a4, .inl (T 0, 60, .inl (fun k => nI (tw k / 4)))), (a5, .inl (T 2, 60, .inl (fun k => bI (isE (tw k)))))] := hD
  refine lv_aload_n hx hb dX8_upperShare_5 rfl (lv_at hl 0 rfl) ?_
  refine va_get (D := D) (ci := 4) (v := .int (nI n0)) (C := RX8) (T := TX8) (N := 9) hx hb hts i_X8 hown hK hP 0 rfl rfl 5 (by decide) (hts _ u739) (fun _ h9 => h9) rfl dX8_upperShare_6 ?_
  refine lv_if_ne (tgt := 16) hx hb dX8_upperShare_9 (by decide) (fun h1 => ?_) (fun h1 => ?_)
  · exact absurd (show nI n0 = 0 by rw [hn]; rfl) h1
  · refine lv_fconst0 hx hb dX8_upperShare_12 ?_
    refine lv_goto (tgt := 33) hx hb dX8_upperShare_13 (by decide) ?_
    exact zh_fret () hx hb hr hlocks dX8_upperShare_33 hP hD hS (by rw [shF, if_pos hn]) (rfl)
set_option maxRecDepth 20000 in
theorem c_X8_upperShare_n (l : Launch) (D : va_G) (T : Nat → ClassId) (q a1 a2 a3 a4 a5 : Nat) (yv tw : Nat → Nat) (n0 : Nat) (nc : Int32) (ne : Bool) (th : Int32) (n1 : Nat) (hn : n1 < 60) (hp0 : 0 < htN tw (n1 + 1)) (ht : ∀ k, tw k < 262144) : Hm l yX8_upperShare cX8_upperShare 1 (some FieldType.float) 4 0 0 D T [.ref q] [(q, .inr (4, [.ref a1, .ref a2, .ref a3, .ref a4, .ref a5, .int (nI (n1 + 1)), .int nc, .int (bI ne), .int th])), (a1, .inl (T 0, 8, .inl (fun k => nI (yv k / 4)))), (a2, .inl (T 2, 8, .inl (fun k => bI (isE (yv k))))), (a3, .inl (T 2, 8, .inl (fun k => bI (isB (yv k))))), (a4, .inl (T 0, 60, .inl (fun k => nI (tw k / 4)))), (a5, .inl (T 2, 60, .inl (fun k => bI (isE (tw k)))))] (some (.float (shF tw (n1 + 1)))) (fun _ : Unit => [(q, .inr (4, [.ref a1, .ref a2, .ref a3, .ref a4, .ref a5, .int (nI (n1 + 1)), .int nc, .int (bI ne), .int 0])), (a1, .inl (T 0, 8, .inl (fun k => nI (yv k / 4)))), (a2, .inl (T 2, 8, .inl (fun k => bI (isE (yv k))))), (a3, .inl (T 2, 8, .inl (fun k => bI (isB (yv k))))), (a4, .inl (T 0, 60, .inl (fun k => nI (tw k / 4)))), (a5, .inl (T 2, 60, .inl (fun k => bI (isE (tw k)))))]) := by
  refine Hm.of (by decide) (Nat.le_of_ble_eq_true rfl) ?_
  intro zp ze s zm args below zmeth zc hx hb hr hml hown hin hts hlocks A hA hP hK hD hS ls hl
  have hl : lv_has ls 1 [(0, .ref q)] := hl
  have hh := htN_lt tw (n1 + 1)
  refine lv_aload_n hx hb dX8_upperShare_0 rfl (lv_at hl 0 rfl) ?_
  refine lv_iconst (v := 0) hx hb dX8_upperShare_1 (by decide) ?_
  refine va_put (D := D) (ci := 4) (v := .int 0) (ty := .int) (C := RX8) (T := TX8) (N := 9) hx hb hts i_X8 tyX8 tyX8_ok nmX8 hown hK hP hD hS 0 rfl rfl 8 (by decide) (hts _ u742) (fun _ h9 => h9) rfl (by decide +kernel) rfl rfl (Nat.le_of_ble_eq_true rfl) dX8_upperShare_2 (fun H locs hP hD hS => ?_)
  have hP : va_P D zcl [(q, .inr (4, [.ref a1, .ref a2, .ref a3, .ref a4, .ref a5, .int (nI (n1 + 1)), .int nc, .int (bI ne), .int 0])), (a1, .inl (T 0, 8, .inl (fun k => nI (yv k / 4)))), (a2, .inl (T 2, 8, .inl (fun k => bI (isE (yv k))))), (a3, .inl (T 2, 8, .inl (fun k => bI (isB (yv k))))), (a4, .inl (T 0, 60, .inl (fun k => nI (tw k / 4)))), (a5, .inl (T 2, 60, .inl (fun k => bI (isE (tw k)))))] H := hP
  have hD : va_D A [(q, .inr (4, [.ref a1, .ref a2, .ref a3, .ref a4, .ref a5, .int (nI (n1 + 1)), .int nc, .int (bI ne), .int 0])), (a1, .inl (T 0, 8, .inl (fun k => nI (yv k / 4)))), (a2, .inl (T 2, 8, .inl (fun k => bI (isE (yv k))))), (a3, .inl (T 2, 8, .inl (fun k => bI (isB (yv k))))), (a4, .inl (T 0, 60, .inl (fun k => nI (tw k / 4)))), (a5, .inl (T 2, 60, .inl (fun k => bI (isE (tw k)))))] := hD
  refine lv_aload_n hx hb dX8_upperShare_5 rfl (lv_at hl 0 rfl) ?_
  refine va_get (D := D) (ci := 4) (v := .int (nI (n1 + 1))) (C := RX8) (T := TX8) (N := 9) hx hb hts i_X8 hown hK hP 0 rfl rfl 5 (by decide) (hts _ u739) (fun _ h9 => h9) rfl dX8_upperShare_6 ?_
  refine lv_if_ne (tgt := 16) hx hb dX8_upperShare_9 (by decide) (fun h1 => ?_) (fun h1 => ?_)
  · refine lv_aload_n hx hb dX8_upperShare_16 rfl (lv_at hl 0 rfl) ?_
    refine lv_aload_n hx hb dX8_upperShare_17 rfl (lv_at hl 0 rfl) ?_
    refine va_get (D := D) (ci := 4) (v := .int (nI (n1 + 1))) (C := RX8) (T := TX8) (N := 9) hx hb hts i_X8 hown hK hP 0 rfl rfl 5 (by decide) (hts _ u739) (fun _ h9 => h9) rfl dX8_upperShare_18 ?_
    refine lv_iconst (v := 1) hx hb dX8_upperShare_21 (by decide) ?_
    refine lv_isub hx hb dX8_upperShare_22 ?_
    refine zf_i (x' := nI n1) (nI_pred n1) ?_
    refine zh_v (T := T) hx hb hml hown hts k_X8_103 (c_X8_laidFine l D T q a1 a2 a3 a4 a5 yv tw (n1 + 1) nc ne 0 n1 (by omega) ht) ⟨by decide, by decide⟩ rfl hl.1 [] rfl (Nat.le_of_ble_eq_true rfl) dX8_upperShare_23 ⟨Nat.le_of_ble_eq_true rfl, Nat.le_of_ble_eq_true rfl⟩ hK hP hD hS hA (ci := 4) rfl rfl rfl [0, 1, 2, 3, 4, 5] [] (wr := []) rfl rfl (by decide) (by decide) (by decide) [0, 1, 2, 3, 4, 5] (fun _ => [(q, .inr (4, [.ref a1, .ref a2, .ref a3, .ref a4, .ref a5, .int (nI (n1 + 1)), .int nc, .int (bI ne), .int 0])), (a1, .inl (T 0, 8, .inl (fun k => nI (yv k / 4)))), (a2, .inl (T 2, 8, .inl (fun k => bI (isE (yv k))))), (a3, .inl (T 2, 8, .inl (fun k => bI (isB (yv k))))), (a4, .inl (T 0, 60, .inl (fun k => nI (tw k / 4)))), (a5, .inl (T 2, 60, .inl (fun k => bI (isE (tw k)))))]) (by decide) (fun _ => rfl) (fun _ H locs hP hD hS => ?_)
    have hP : va_P D zcl [(q, .inr (4, [.ref a1, .ref a2, .ref a3, .ref a4, .ref a5, .int (nI (n1 + 1)), .int nc, .int (bI ne), .int 0])), (a1, .inl (T 0, 8, .inl (fun k => nI (yv k / 4)))), (a2, .inl (T 2, 8, .inl (fun k => bI (isE (yv k))))), (a3, .inl (T 2, 8, .inl (fun k => bI (isB (yv k))))), (a4, .inl (T 0, 60, .inl (fun k => nI (tw k / 4)))), (a5, .inl (T 2, 60, .inl (fun k => bI (isE (tw k)))))] H := hP
    have hD : va_D A [(q, .inr (4, [.ref a1, .ref a2, .ref a3, .ref a4, .ref a5, .int (nI (n1 + 1)), .int nc, .int (bI ne), .int 0])), (a1, .inl (T 0, 8, .inl (fun k => nI (yv k / 4)))), (a2, .inl (T 2, 8, .inl (fun k => bI (isE (yv k))))), (a3, .inl (T 2, 8, .inl (fun k => bI (isB (yv k))))), (a4, .inl (T 0, 60, .inl (fun k => nI (tw k / 4)))), (a5, .inl (T 2, 60, .inl (fun k => bI (isE (tw k)))))] := hD
    refine lv_i2f hx hb dX8_upperShare_26 ?_
    refine lv_aload_n hx hb dX8_upperShare_27 rfl (lv_at hl 0 rfl) ?_
    refine zh_v (T := T) hx hb hml hown hts k_X8_106 (c_X8_height l D T q a1 a2 a3 a4 a5 yv tw (n1 + 1) nc ne 0 (by omega) ht) ⟨by decide, by decide⟩ rfl hl.1 [.float (FP.i2f (nI (fN (eig (tw n1)))))] rfl (Nat.le_of_ble_eq_true rfl) dX8_upperShare_28 ⟨Nat.le_of_ble_eq_true rfl, Nat.le_of_ble_eq_true rfl⟩ hK hP hD hS hA (ci := 4) rfl rfl rfl [0, 1, 2, 3, 4, 5] [] (wr := []) rfl rfl (by decide) (by decide) (by decide) [0, 1, 2, 3, 4, 5] (fun _ => [(q, .inr (4, [.ref a1, .ref a2, .ref a3, .ref a4, .ref a5, .int (nI (n1 + 1)), .int nc, .int (bI ne), .int 0])), (a1, .inl (T 0, 8, .inl (fun k => nI (yv k / 4)))), (a2, .inl (T 2, 8, .inl (fun k => bI (isE (yv k))))), (a3, .inl (T 2, 8, .inl (fun k => bI (isB (yv k))))), (a4, .inl (T 0, 60, .inl (fun k => nI (tw k / 4)))), (a5, .inl (T 2, 60, .inl (fun k => bI (isE (tw k)))))]) (by decide) (fun _ => rfl) (fun _ H locs hP hD hS => ?_)
    have hP : va_P D zcl [(q, .inr (4, [.ref a1, .ref a2, .ref a3, .ref a4, .ref a5, .int (nI (n1 + 1)), .int nc, .int (bI ne), .int 0])), (a1, .inl (T 0, 8, .inl (fun k => nI (yv k / 4)))), (a2, .inl (T 2, 8, .inl (fun k => bI (isE (yv k))))), (a3, .inl (T 2, 8, .inl (fun k => bI (isB (yv k))))), (a4, .inl (T 0, 60, .inl (fun k => nI (tw k / 4)))), (a5, .inl (T 2, 60, .inl (fun k => bI (isE (tw k)))))] H := hP
    have hD : va_D A [(q, .inr (4, [.ref a1, .ref a2, .ref a3, .ref a4, .ref a5, .int (nI (n1 + 1)), .int nc, .int (bI ne), .int 0])), (a1, .inl (T 0, 8, .inl (fun k => nI (yv k / 4)))), (a2, .inl (T 2, 8, .inl (fun k => bI (isE (yv k))))), (a3, .inl (T 2, 8, .inl (fun k => bI (isB (yv k))))), (a4, .inl (T 0, 60, .inl (fun k => nI (tw k / 4)))), (a5, .inl (T 2, 60, .inl (fun k => bI (isE (tw k)))))] := hD
    refine lv_i2f hx hb dX8_upperShare_31 ?_
    refine lv_fdiv hx hb dX8_upperShare_32 (nn_share hp0 (by omega)) ?_
    exact zh_fret () hx hb hr hlocks dX8_upperShare_33 hP hD hS (by rw [shF, if_neg (by omega)]; rfl) (rfl)
  · exact absurd h1 (nI_ne0 (by omega) (by omega))
set_option maxRecDepth 20000 in
theorem c_X8_checksum (l : Launch) (D : va_G) (T : Nat → ClassId) (q a1 a2 a3 a4 a5 : Nat) (yv tw : Nat → Nat) (n0 : Nat) (nc : Int32) (ne : Bool) (th : Int32) (hn : n0 ≤ 60) (hy : ∀ k, yv k < 262144) (ht : ∀ k, tw k < 262144) : Hm l yX8_checksum cX8_checksum 4 (some FieldType.long) 3 0 0 D T [.ref q] [(q, .inr (4, [.ref a1, .ref a2, .ref a3, .ref a4, .ref a5, .int (nI n0), .int nc, .int (bI ne), .int th])), (a1, .inl (T 0, 8, .inl (fun k => nI (yv k / 4)))), (a2, .inl (T 2, 8, .inl (fun k => bI (isE (yv k))))), (a3, .inl (T 2, 8, .inl (fun k => bI (isB (yv k))))), (a4, .inl (T 0, 60, .inl (fun k => nI (tw k / 4)))), (a5, .inl (T 2, 60, .inl (fun k => bI (isE (tw k)))))] (some (.long (ckA yv tw n0))) (fun _ : Unit => [(q, .inr (4, [.ref a1, .ref a2, .ref a3, .ref a4, .ref a5, .int (nI n0), .int nc, .int (bI ne), .int 0])), (a1, .inl (T 0, 8, .inl (fun k => nI (yv k / 4)))), (a2, .inl (T 2, 8, .inl (fun k => bI (isE (yv k))))), (a3, .inl (T 2, 8, .inl (fun k => bI (isB (yv k))))), (a4, .inl (T 0, 60, .inl (fun k => nI (tw k / 4)))), (a5, .inl (T 2, 60, .inl (fun k => bI (isE (tw k)))))]) := by
  refine Hm.of (by decide) (Nat.le_of_ble_eq_true rfl) ?_
  intro zp ze s zm args below zmeth zc hx hb hr hml hown hin hts hlocks A hA hP hK hD hS ls hl
  have hl : lv_has ls 4 [(0, .ref q)] := hl
  refine lv_aload_n hx hb dX8_checksum_0 rfl (lv_at hl 0 rfl) ?_
  refine lv_iconst (v := 0) hx hb dX8_checksum_1 (by decide) ?_
  refine va_put (D := D) (ci := 4) (v := .int 0) (ty := .int) (C := RX8) (T := TX8) (N := 9) hx hb hts i_X8 tyX8 tyX8_ok nmX8 hown hK hP hD hS 0 rfl rfl 8 (by decide) (hts _ u742) (fun _ h9 => h9) rfl (by decide +kernel) rfl rfl (Nat.le_of_ble_eq_true rfl) dX8_checksum_2 (fun H locs hP hD hS => ?_)
  have hP : va_P D zcl [(q, .inr (4, [.ref a1, .ref a2, .ref a3, .ref a4, .ref a5, .int (nI n0), .int nc, .int (bI ne), .int 0])), (a1, .inl (T 0, 8, .inl (fun k => nI (yv k / 4)))), (a2, .inl (T 2, 8, .inl (fun k => bI (isE (yv k))))), (a3, .inl (T 2, 8, .inl (fun k => bI (isB (yv k))))), (a4, .inl (T 0, 60, .inl (fun k => nI (tw k / 4)))), (a5, .inl (T 2, 60, .inl (fun k => bI (isE (tw k)))))] H := hP
  have hD : va_D A [(q, .inr (4, [.ref a1, .ref a2, .ref a3, .ref a4, .ref a5, .int (nI n0), .int nc, .int (bI ne), .int 0])), (a1, .inl (T 0, 8, .inl (fun k => nI (yv k / 4)))), (a2, .inl (T 2, 8, .inl (fun k => bI (isE (yv k))))), (a3, .inl (T 2, 8, .inl (fun k => bI (isB (yv k))))), (a4, .inl (T 0, 60, .inl (fun k => nI (tw k / 4)))), (a5, .inl (T 2, 60, .inl (fun k => bI (isE (tw k)))))] := hD
  refine lv_ldc2 hx hb hown (hts _ u936) dX8_checksum_5 ?_
  refine lv_lstore_n (lv' := [(1, .long 7), (0, .ref q)]) hx hb dX8_checksum_8 rfl hl (by decide) rfl (fun ls hl => ?_)
  refine lv_iconst (v := 0) hx hb dX8_checksum_9 (by decide) ?_
  refine lv_istore_n (lv' := [(3, .int 0), (1, .long 7), (0, .ref q)]) hx hb dX8_checksum_10 rfl hl (by decide) rfl (fun ls hl => ?_)
  have lp : ∀ (n : Nat) (i : Nat), i + n = 8 → ∀ (H : Heap) (locs : List Loc), va_P D zcl [(q, .inr (4, [.ref a1, .ref a2, .ref a3, .ref a4, .ref a5, .int (nI n0), .int nc, .int (bI ne), .int 0])), (a1, .inl (T 0, 8, .inl (fun k => nI (yv k / 4)))), (a2, .inl (T 2, 8, .inl (fun k => bI (isE (yv k))))), (a3, .inl (T 2, 8, .inl (fun k => bI (isB (yv k))))), (a4, .inl (T 0, 60, .inl (fun k => nI (tw k / 4)))), (a5, .inl (T 2, 60, .inl (fun k => bI (isE (tw k)))))] H → va_D A [(q, .inr (4, [.ref a1, .ref a2, .ref a3, .ref a4, .ref a5, .int (nI n0), .int nc, .int (bI ne), .int 0])), (a1, .inl (T 0, 8, .inl (fun k => nI (yv k / 4)))), (a2, .inl (T 2, 8, .inl (fun k => bI (isE (yv k))))), (a3, .inl (T 2, 8, .inl (fun k => bI (isB (yv k))))), (a4, .inl (T 0, 60, .inl (fun k => nI (tw k / 4)))), (a5, .inl (T 2, 60, .inl (fun k => bI (isE (tw k)))))] → va_S A s.heap H locs → ∀ ls : Array Slot, lv_has ls 4 [(0, .ref q), (1, .long (ckY yv i)), (3, .int (nI i))] → W zp l ze (zR 3 0 0) s zm args below zmeth zc H locs 0 0 (MQ below (zQh D A (some (.long (ckA yv tw n0))) (fun _ : Unit => [(q, .inr (4, [.ref a1, .ref a2, .ref a3, .ref a4, .ref a5, .int (nI n0), .int nc, .int (bI ne), .int 0])), (a1, .inl (T 0, 8, .inl (fun k => nI (yv k / 4)))), (a2, .inl (T 2, 8, .inl (fun k => bI (isE (yv k))))), (a3, .inl (T 2, 8, .inl (fun k => bI (isB (yv k))))), (a4, .inl (T 0, 60, .inl (fun k => nI (tw k / 4)))), (a5, .inl (T 2, 60, .inl (fun k => bI (isE (tw k)))))])) args s 0 0 A) (F0 zm 11 ls []) := by
    intro n
    induction n with
    | zero =>
      intro i hi H locs hP hD hS ls hl
      have hik : i = 8 := by omega
      rw [hik] at hl
      refine lv_iload_n hx hb dX8_checksum_11 rfl (lv_at hl 2 rfl) ?_
      refine lv_bipush (v := 8) hx hb dX8_checksum_12 (by decide) ?_
      refine lv_icmp_ge (tgt := 87) hx hb dX8_checksum_14 (by decide) (fun h1 => ?_) (fun h1 => ?_)
      · refine lv_ldc2 hx hb hown (hts _ u937) dX8_checksum_87 ?_
        refine lv_lload_n hx hb dX8_checksum_90 rfl (lv_at hl 1 rfl) ?_
        refine lv_lmul hx hb dX8_checksum_91 ?_
        refine lv_aload_n hx hb dX8_checksum_92 rfl (lv_at hl 0 rfl) ?_
        refine va_get (D := D) (ci := 4) (v := .int (nI n0)) (C := RX8) (T := TX8) (N := 9) hx hb hts i_X8 hown hK hP 0 rfl rfl 5 (by decide) (hts _ u739) (fun _ h9 => h9) rfl dX8_checksum_93 ?_
        refine lv_i2l hx hb dX8_checksum_96 rfl ?_
        refine zf_l (x' := lN n0) (nI_l (by omega)) ?_
        refine lv_ladd hx hb dX8_checksum_97 ?_
        refine lv_lstore_n (lv' := [(1, .long ((31 * (ckY yv 8)) + (lN n0))), (0, .ref q), (3, .int (nI 8))]) hx hb dX8_checksum_98 rfl hl (by decide) rfl (fun ls hl => ?_)
        refine lv_iconst (v := 0) hx hb dX8_checksum_99 (by decide) ?_
        refine lv_istore_n (lv' := [(3, .int 0), (1, .long ((31 * (ckY yv 8)) + (lN n0))), (0, .ref q)]) hx hb dX8_checksum_100 rfl hl (by decide) rfl (fun ls hl => ?_)
        have lp2 : ∀ (n : Nat) (j : Nat), j + n = n0 → ∀ (H : Heap) (locs : List Loc), va_P D zcl [(q, .inr (4, [.ref a1, .ref a2, .ref a3, .ref a4, .ref a5, .int (nI n0), .int nc, .int (bI ne), .int 0])), (a1, .inl (T 0, 8, .inl (fun k => nI (yv k / 4)))), (a2, .inl (T 2, 8, .inl (fun k => bI (isE (yv k))))), (a3, .inl (T 2, 8, .inl (fun k => bI (isB (yv k))))), (a4, .inl (T 0, 60, .inl (fun k => nI (tw k / 4)))), (a5, .inl (T 2, 60, .inl (fun k => bI (isE (tw k)))))] H → va_D A [(q, .inr (4, [.ref a1, .ref a2, .ref a3, .ref a4, .ref a5, .int (nI n0), .int nc, .int (bI ne), .int 0])), (a1, .inl (T 0, 8, .inl (fun k => nI (yv k / 4)))), (a2, .inl (T 2, 8, .inl (fun k => bI (isE (yv k))))), (a3, .inl (T 2, 8, .inl (fun k => bI (isB (yv k))))), (a4, .inl (T 0, 60, .inl (fun k => nI (tw k / 4)))), (a5, .inl (T 2, 60, .inl (fun k => bI (isE (tw k)))))] → va_S A s.heap H locs → ∀ ls : Array Slot, lv_has ls 4 [(0, .ref q), (1, .long (ckT (31 * ckY yv 8 + lN n0) tw j)), (3, .int (nI j))] → W zp l ze (zR 3 0 0) s zm args below zmeth zc H locs 0 0 (MQ below (zQh D A (some (.long (ckA yv tw n0))) (fun _ : Unit => [(q, .inr (4, [.ref a1, .ref a2, .ref a3, .ref a4, .ref a5, .int (nI n0), .int nc, .int (bI ne), .int 0])), (a1, .inl (T 0, 8, .inl (fun k => nI (yv k / 4)))), (a2, .inl (T 2, 8, .inl (fun k => bI (isE (yv k))))), (a3, .inl (T 2, 8, .inl (fun k => bI (isB (yv k))))), (a4, .inl (T 0, 60, .inl (fun k => nI (tw k / 4)))), (a5, .inl (T 2, 60, .inl (fun k => bI (isE (tw k)))))])) args s 0 0 A) (F0 zm 101 ls []) := by
          intro n
          induction n with
          | zero =>
            intro j hj H locs hP hD hS ls hl
            have hjk : j = n0 := by omega
            refine lv_iload_n hx hb dX8_checksum_101 rfl (lv_at hl 2 rfl) ?_
            refine lv_aload_n hx hb dX8_checksum_102 rfl (lv_at hl 0 rfl) ?_
            refine va_get (D := D) (ci := 4) (v := .int (nI n0)) (C := RX8) (T := TX8) (N := 9) hx hb hts i_X8 hown hK hP 0 rfl rfl 5 (by decide) (hts _ u739) (fun _ h9 => h9) rfl dX8_checksum_103 ?_
            refine lv_icmp_ge (tgt := 160) hx hb dX8_checksum_106 (by decide) (fun h2 => ?_) (fun h2 => ?_)
            · refine lv_lload_n hx hb dX8_checksum_160 rfl (lv_at hl 1 rfl) ?_
              exact zh_lret () hx hb hr hlocks dX8_checksum_161 hP hD hS (by rw [ckA, hjk]) (rfl)
            · exact absurd (nI_le (by omega) (by omega)) h2
          | succ n ih =>
            intro j hj H locs hP hD hS ls hl
            have hl2 := eig_lt (ht j)
            refine lv_iload_n hx hb dX8_checksum_101 rfl (lv_at hl 2 rfl) ?_
            refine lv_aload_n hx hb dX8_checksum_102 rfl (lv_at hl 0 rfl) ?_
            refine va_get (D := D) (ci := 4) (v := .int (nI n0)) (C := RX8) (T := TX8) (N := 9) hx hb hts i_X8 hown hK hP 0 rfl rfl 5 (by decide) (hts _ u739) (fun _ h9 => h9) rfl dX8_checksum_103 ?_
            refine lv_icmp_ge (tgt := 160) hx hb dX8_checksum_106 (by decide) (fun h3 => ?_) (fun h3 => ?_)
            · exact absurd h3 (nI_ge (by omega) (by omega))
            · refine lv_ldc2 hx hb hown (hts _ u937) dX8_checksum_109 ?_
              refine lv_lload_n hx hb dX8_checksum_112 rfl (lv_at hl 1 rfl) ?_
              refine lv_lmul hx hb dX8_checksum_113 ?_
              refine lv_aload_n hx hb dX8_checksum_114 rfl (lv_at hl 0 rfl) ?_
              refine va_get (D := D) (ci := 4) (v := .ref a4) (C := RX8) (T := TX8) (N := 9) hx hb hts i_X8 hown hK hP 0 rfl rfl 3 (by decide) (hts _ u737) (fun _ h9 => h9) rfl dX8_checksum_115 ?_
              refine lv_iload_n hx hb dX8_checksum_118 rfl (lv_at hl 2 rfl) ?_
              refine za_iald hx hb hK hP 4 rfl j (rfl) (by omega) (by decide) dX8_checksum_119 ?_
              refine lv_aload_n hx hb dX8_checksum_120 rfl (lv_at hl 0 rfl) ?_
              refine va_get (D := D) (ci := 4) (v := .ref a5) (C := RX8) (T := TX8) (N := 9) hx hb hts i_X8 hown hK hP 0 rfl rfl 4 (by decide) (hts _ u738) (fun _ h9 => h9) rfl dX8_checksum_121 ?_
              refine lv_iload_n hx hb dX8_checksum_124 rfl (lv_at hl 2 rfl) ?_
              refine za_zald hx hb hK hP 5 rfl j (rfl) (by omega) (by decide) dX8_checksum_125 ?_
              refine zp_call hx hb hml hown hts k_X8_35 (c_X8_eighthsOf l (nI (tw j / 4)) (isE (tw j))) ⟨by decide, by decide⟩ rfl hl.1 [.long (31 * (ckT (31 * ckY yv 8 + lN n0) tw j))] rfl (Nat.le_of_ble_eq_true rfl) dX8_checksum_126 ⟨Nat.le_of_ble_eq_true rfl, Nat.le_of_ble_eq_true rfl⟩ ?_
              refine zf_i (x' := nI (eig (tw j))) (e8_c) ?_
              refine lv_i2l hx hb dX8_checksum_129 rfl ?_
              refine zf_l (x' := lN (eig (tw j))) (nI_l (by omega)) ?_
              refine lv_ladd hx hb dX8_checksum_130 ?_
              refine lv_lstore_n (lv' := [(1, .long ((31 * (ckT (31 * ckY yv 8 + lN n0) tw j)) + (lN (eig (tw j))))), (0, .ref q), (3, .int (nI j))]) hx hb dX8_checksum_131 rfl hl (by decide) rfl (fun ls hl => ?_)
              refine lv_ldc2 hx hb hown (hts _ u937) dX8_checksum_132 ?_
              refine lv_lload_n hx hb dX8_checksum_135 rfl (lv_at hl 0 rfl) ?_
              refine lv_lmul hx hb dX8_checksum_136 ?_
              refine lv_aload_n hx hb dX8_checksum_137 rfl (lv_at hl 1 rfl) ?_
              refine va_get (D := D) (ci := 4) (v := .ref a5) (C := RX8) (T := TX8) (N := 9) hx hb hts i_X8 hown hK hP 0 rfl rfl 4 (by decide) (hts _ u738) (fun _ h9 => h9) rfl dX8_checksum_138 ?_
              refine lv_iload_n hx hb dX8_checksum_141 rfl (lv_at hl 2 rfl) ?_
              refine za_zald hx hb hK hP 5 rfl j (rfl) (by omega) (by decide) dX8_checksum_142 ?_
              refine zb_eq (tgt := 150) hx hb dX8_checksum_143 (by decide) (fun h4 => ?_) (fun h4 => ?_)
              · refine lv_iconst (v := 0) hx hb dX8_checksum_150 (by decide) ?_
                refine lv_i2l hx hb dX8_checksum_151 rfl ?_
                refine lv_ladd hx hb dX8_checksum_152 ?_
                refine zf_l (x' := ckT (31 * ckY yv 8 + lN n0) tw (j + 1)) ((show _ = ckC _ _ by rw [ckC, if_neg (zbf h4)]; rfl)) ?_
                refine lv_lstore_n (lv' := [(1, .long (ckT (31 * ckY yv 8 + lN n0) tw (j + 1))), (0, .ref q), (3, .int (nI j))]) hx hb dX8_checksum_153 rfl hl (by decide) rfl (fun ls hl => ?_)
                refine lv_iinc (v := (nI (j + 1))) (lv' := [(3, .int (nI (j + 1))), (1, .long (ckT (31 * ckY yv 8 + lN n0) tw (j + 1))), (0, .ref q)]) hx hb dX8_checksum_154 hl (k := 2) rfl (nI_1 j) (by decide) rfl (fun ls hl => ?_)
                refine lv_goto (tgt := 101) hx hb dX8_checksum_157 (by decide) ?_
                exact ih (j + 1) (by omega) _ _ hP hD hS ls (lv_sub hl [2, 1, 0] rfl)
              · refine lv_iconst (v := 1) hx hb dX8_checksum_146 (by decide) ?_
                refine lv_goto (tgt := 151) hx hb dX8_checksum_147 (by decide) ?_
                refine lv_i2l hx hb dX8_checksum_151 rfl ?_
                refine lv_ladd hx hb dX8_checksum_152 ?_
                refine zf_l (x' := ckT (31 * ckY yv 8 + lN n0) tw (j + 1)) ((show _ = ckC _ _ by rw [ckC, if_pos h4]; rfl)) ?_
                refine lv_lstore_n (lv' := [(1, .long (ckT (31 * ckY yv 8 + lN n0) tw (j + 1))), (0, .ref q), (3, .int (nI j))]) hx hb dX8_checksum_153 rfl hl (by decide) rfl (fun ls hl => ?_)
                refine lv_iinc (v := (nI (j + 1))) (lv' := [(3, .int (nI (j + 1))), (1, .long (ckT (31 * ckY yv 8 + lN n0) tw (j + 1))), (0, .ref q)]) hx hb dX8_checksum_154 hl (k := 2) rfl (nI_1 j) (by decide) rfl (fun ls hl => ?_)
                refine lv_goto (tgt := 101) hx hb dX8_checksum_157 (by decide) ?_
                exact ih (j + 1) (by omega) _ _ hP hD hS ls (lv_sub hl [2, 1, 0] rfl)
        exact lp2 n0 0 (by omega) _ _ hP hD hS ls (lv_sub hl [2, 1, 0] rfl)
      · exact absurd (show (8 : Int32) ≤ nI 8 by decide) h1
    | succ n ih =>
      intro i hi H locs hP hD hS ls hl
      refine lv_iload_n hx hb dX8_checksum_11 rfl (lv_at hl 2 rfl) ?_
      refine lv_bipush (v := 8) hx hb dX8_checksum_12 (by decide) ?_
      refine lv_icmp_ge (tgt := 87) hx hb dX8_checksum_14 (by decide) (fun h5 => ?_) (fun h5 => ?_)
      · exact absurd h5 (show ¬ nI 8 ≤ nI i from nI_ge (by omega) (by decide))
      · refine lv_ldc2 hx hb hown (hts _ u937) dX8_checksum_17 ?_
        refine lv_lload_n hx hb dX8_checksum_20 rfl (lv_at hl 1 rfl) ?_
        refine lv_lmul hx hb dX8_checksum_21 ?_
        refine lv_aload_n hx hb dX8_checksum_22 rfl (lv_at hl 0 rfl) ?_
        refine lv_iload_n hx hb dX8_checksum_23 rfl (lv_at hl 2 rfl) ?_
        refine zh_v (T := T) hx hb hml hown hts k_X8_72 (c_X8_signed l D T q a1 a2 a3 a4 a5 yv tw n0 nc ne 0 i (show i < 8 by omega)) ⟨by decide, by decide⟩ rfl hl.1 [.long (31 * (ckY yv i))] rfl (Nat.le_of_ble_eq_true rfl) dX8_checksum_24 ⟨Nat.le_of_ble_eq_true rfl, Nat.le_of_ble_eq_true rfl⟩ hK hP hD hS hA (ci := 4) rfl rfl rfl [0, 1, 2, 3, 4, 5] [] (wr := []) rfl rfl (by decide) (by decide) (by decide) [0, 1, 2, 3, 4, 5] (fun _ => [(q, .inr (4, [.ref a1, .ref a2, .ref a3, .ref a4, .ref a5, .int (nI n0), .int nc, .int (bI ne), .int 0])), (a1, .inl (T 0, 8, .inl (fun k => nI (yv k / 4)))), (a2, .inl (T 2, 8, .inl (fun k => bI (isE (yv k))))), (a3, .inl (T 2, 8, .inl (fun k => bI (isB (yv k))))), (a4, .inl (T 0, 60, .inl (fun k => nI (tw k / 4)))), (a5, .inl (T 2, 60, .inl (fun k => bI (isE (tw k)))))]) (by decide) (fun _ => rfl) (fun _ H locs hP hD hS => ?_)
        have hP : va_P D zcl [(q, .inr (4, [.ref a1, .ref a2, .ref a3, .ref a4, .ref a5, .int (nI n0), .int nc, .int (bI ne), .int 0])), (a1, .inl (T 0, 8, .inl (fun k => nI (yv k / 4)))), (a2, .inl (T 2, 8, .inl (fun k => bI (isE (yv k))))), (a3, .inl (T 2, 8, .inl (fun k => bI (isB (yv k))))), (a4, .inl (T 0, 60, .inl (fun k => nI (tw k / 4)))), (a5, .inl (T 2, 60, .inl (fun k => bI (isE (tw k)))))] H := hP
        have hD : va_D A [(q, .inr (4, [.ref a1, .ref a2, .ref a3, .ref a4, .ref a5, .int (nI n0), .int nc, .int (bI ne), .int 0])), (a1, .inl (T 0, 8, .inl (fun k => nI (yv k / 4)))), (a2, .inl (T 2, 8, .inl (fun k => bI (isE (yv k))))), (a3, .inl (T 2, 8, .inl (fun k => bI (isB (yv k))))), (a4, .inl (T 0, 60, .inl (fun k => nI (tw k / 4)))), (a5, .inl (T 2, 60, .inl (fun k => bI (isE (tw k)))))] := hD
        refine lv_i2l hx hb dX8_checksum_27 rfl ?_
        refine lv_ladd hx hb dX8_checksum_28 ?_
        refine lv_lstore_n (lv' := [(1, .long ((31 * (ckY yv i)) + (Int32.toInt64 (sgI (yv i))))), (0, .ref q), (3, .int (nI i))]) hx hb dX8_checksum_29 rfl hl (by decide) rfl (fun ls hl => ?_)
        refine lv_ldc2 hx hb hown (hts _ u937) dX8_checksum_30 ?_
        refine lv_lload_n hx hb dX8_checksum_33 rfl (lv_at hl 0 rfl) ?_
        refine lv_lmul hx hb dX8_checksum_34 ?_
        refine lv_aload_n hx hb dX8_checksum_35 rfl (lv_at hl 1 rfl) ?_
        refine va_get (D := D) (ci := 4) (v := .ref a3) (C := RX8) (T := TX8) (N := 9) hx hb hts i_X8 hown hK hP 0 rfl rfl 2 (by decide) (hts _ u736) (fun _ h9 => h9) rfl dX8_checksum_36 ?_
        refine lv_iload_n hx hb dX8_checksum_39 rfl (lv_at hl 2 rfl) ?_
        refine za_zald hx hb hK hP 3 rfl i (rfl) (by omega) (by decide) dX8_checksum_40 ?_
        refine zb_eq (tgt := 48) hx hb dX8_checksum_41 (by decide) (fun h6 => ?_) (fun h6 => ?_)
        · refine lv_iconst (v := 0) hx hb dX8_checksum_48 (by decide) ?_
          refine lv_i2l hx hb dX8_checksum_49 rfl ?_
          refine lv_ladd hx hb dX8_checksum_50 ?_
          refine lv_aload_n hx hb dX8_checksum_51 rfl (lv_at hl 1 rfl) ?_
          refine va_get (D := D) (ci := 4) (v := .ref a2) (C := RX8) (T := TX8) (N := 9) hx hb hts i_X8 hown hK hP 0 rfl rfl 1 (by decide) (hts _ u735) (fun _ h9 => h9) rfl dX8_checksum_52 ?_
          refine lv_iload_n hx hb dX8_checksum_55 rfl (lv_at hl 2 rfl) ?_
          refine za_zald hx hb hK hP 2 rfl i (rfl) (by omega) (by decide) dX8_checksum_56 ?_
          refine zb_eq (tgt := 64) hx hb dX8_checksum_57 (by decide) (fun h7 => ?_) (fun h7 => ?_)
          · refine lv_iconst (v := 0) hx hb dX8_checksum_64 (by decide) ?_
            refine lv_i2l hx hb dX8_checksum_65 rfl ?_
            refine lv_ladd hx hb dX8_checksum_66 ?_
            refine zf_l (x' := 31 * (31 * ckY yv i + Int32.toInt64 (sgI (yv i))) + lN (yv i % 4)) (by rw [kd4 h6 h7]; exact Int64.add_assoc _ _ _) ?_
            refine lv_lstore_n (lv' := [(1, .long (31 * (31 * ckY yv i + Int32.toInt64 (sgI (yv i))) + lN (yv i % 4))), (0, .ref q), (3, .int (nI i))]) hx hb dX8_checksum_67 rfl hl (by decide) rfl (fun ls hl => ?_)
            refine lv_ldc2 hx hb hown (hts _ u937) dX8_checksum_68 ?_
            refine lv_lload_n hx hb dX8_checksum_71 rfl (lv_at hl 0 rfl) ?_
            refine lv_lmul hx hb dX8_checksum_72 ?_
            refine lv_aload_n hx hb dX8_checksum_73 rfl (lv_at hl 1 rfl) ?_
            refine lv_iload_n hx hb dX8_checksum_74 rfl (lv_at hl 2 rfl) ?_
            refine zh_v (T := T) hx hb hml hown hts k_X8_66 (c_X8_fineAt l D T q a1 a2 a3 a4 a5 yv tw n0 nc ne 0 i (show i < 8 by omega) hy) ⟨by decide, by decide⟩ rfl hl.1 [.long (31 * (31 * (31 * ckY yv i + Int32.toInt64 (sgI (yv i))) + lN (yv i % 4)))] rfl (Nat.le_of_ble_eq_true rfl) dX8_checksum_75 ⟨Nat.le_of_ble_eq_true rfl, Nat.le_of_ble_eq_true rfl⟩ hK hP hD hS hA (ci := 4) rfl rfl rfl [0, 1, 2, 3, 4, 5] [] (wr := []) rfl rfl (by decide) (by decide) (by decide) [0, 1, 2, 3, 4, 5] (fun _ => [(q, .inr (4, [.ref a1, .ref a2, .ref a3, .ref a4, .ref a5, .int (nI n0), .int nc, .int (bI ne), .int 0])), (a1, .inl (T 0, 8, .inl (fun k => nI (yv k / 4)))), (a2, .inl (T 2, 8, .inl (fun k => bI (isE (yv k))))), (a3, .inl (T 2, 8, .inl (fun k => bI (isB (yv k))))), (a4, .inl (T 0, 60, .inl (fun k => nI (tw k / 4)))), (a5, .inl (T 2, 60, .inl (fun k => bI (isE (tw k)))))]) (by decide) (fun _ => rfl) (fun _ H locs hP hD hS => ?_)
            have hP : va_P D zcl [(q, .inr (4, [.ref a1, .ref a2, .ref a3, .ref a4, .ref a5, .int (nI n0), .int nc, .int (bI ne), .int 0])), (a1, .inl (T 0, 8, .inl (fun k => nI (yv k / 4)))), (a2, .inl (T 2, 8, .inl (fun k => bI (isE (yv k))))), (a3, .inl (T 2, 8, .inl (fun k => bI (isB (yv k))))), (a4, .inl (T 0, 60, .inl (fun k => nI (tw k / 4)))), (a5, .inl (T 2, 60, .inl (fun k => bI (isE (tw k)))))] H := hP
            have hD : va_D A [(q, .inr (4, [.ref a1, .ref a2, .ref a3, .ref a4, .ref a5, .int (nI n0), .int nc, .int (bI ne), .int 0])), (a1, .inl (T 0, 8, .inl (fun k => nI (yv k / 4)))), (a2, .inl (T 2, 8, .inl (fun k => bI (isE (yv k))))), (a3, .inl (T 2, 8, .inl (fun k => bI (isB (yv k))))), (a4, .inl (T 0, 60, .inl (fun k => nI (tw k / 4)))), (a5, .inl (T 2, 60, .inl (fun k => bI (isE (tw k)))))] := hD
            refine lv_i2l hx hb dX8_checksum_78 rfl ?_
            refine lv_ladd hx hb dX8_checksum_79 ?_
            refine zf_l (x' := ckY yv (i + 1)) (rfl) ?_
            refine lv_lstore_n (lv' := [(1, .long (ckY yv (i + 1))), (0, .ref q), (3, .int (nI i))]) hx hb dX8_checksum_80 rfl hl (by decide) rfl (fun ls hl => ?_)
            refine lv_iinc (v := (nI (i + 1))) (lv' := [(3, .int (nI (i + 1))), (1, .long (ckY yv (i + 1))), (0, .ref q)]) hx hb dX8_checksum_81 hl (k := 2) rfl (nI_1 i) (by decide) rfl (fun ls hl => ?_)
            refine lv_goto (tgt := 11) hx hb dX8_checksum_84 (by decide) ?_
            exact ih (i + 1) (by omega) _ _ hP hD hS ls (lv_sub hl [2, 1, 0] rfl)
          · refine lv_iconst (v := 1) hx hb dX8_checksum_60 (by decide) ?_
            refine lv_goto (tgt := 65) hx hb dX8_checksum_61 (by decide) ?_
            refine lv_i2l hx hb dX8_checksum_65 rfl ?_
            refine lv_ladd hx hb dX8_checksum_66 ?_
            refine zf_l (x' := 31 * (31 * ckY yv i + Int32.toInt64 (sgI (yv i))) + lN (yv i % 4)) (by rw [kd4 h6 h7]; exact Int64.add_assoc _ _ _) ?_
            refine lv_lstore_n (lv' := [(1, .long (31 * (31 * ckY yv i + Int32.toInt64 (sgI (yv i))) + lN (yv i % 4))), (0, .ref q), (3, .int (nI i))]) hx hb dX8_checksum_67 rfl hl (by decide) rfl (fun ls hl => ?_)
            refine lv_ldc2 hx hb hown (hts _ u937) dX8_checksum_68 ?_
            refine lv_lload_n hx hb dX8_checksum_71 rfl (lv_at hl 0 rfl) ?_
            refine lv_lmul hx hb dX8_checksum_72 ?_
            refine lv_aload_n hx hb dX8_checksum_73 rfl (lv_at hl 1 rfl) ?_
            refine lv_iload_n hx hb dX8_checksum_74 rfl (lv_at hl 2 rfl) ?_
            refine zh_v (T := T) hx hb hml hown hts k_X8_66 (c_X8_fineAt l D T q a1 a2 a3 a4 a5 yv tw n0 nc ne 0 i (show i < 8 by omega) hy) ⟨by decide, by decide⟩ rfl hl.1 [.long (31 * (31 * (31 * ckY yv i + Int32.toInt64 (sgI (yv i))) + lN (yv i % 4)))] rfl (Nat.le_of_ble_eq_true rfl) dX8_checksum_75 ⟨Nat.le_of_ble_eq_true rfl, Nat.le_of_ble_eq_true rfl⟩ hK hP hD hS hA (ci := 4) rfl rfl rfl [0, 1, 2, 3, 4, 5] [] (wr := []) rfl rfl (by decide) (by decide) (by decide) [0, 1, 2, 3, 4, 5] (fun _ => [(q, .inr (4, [.ref a1, .ref a2, .ref a3, .ref a4, .ref a5, .int (nI n0), .int nc, .int (bI ne), .int 0])), (a1, .inl (T 0, 8, .inl (fun k => nI (yv k / 4)))), (a2, .inl (T 2, 8, .inl (fun k => bI (isE (yv k))))), (a3, .inl (T 2, 8, .inl (fun k => bI (isB (yv k))))), (a4, .inl (T 0, 60, .inl (fun k => nI (tw k / 4)))), (a5, .inl (T 2, 60, .inl (fun k => bI (isE (tw k)))))]) (by decide) (fun _ => rfl) (fun _ H locs hP hD hS => ?_)
            have hP : va_P D zcl [(q, .inr (4, [.ref a1, .ref a2, .ref a3, .ref a4, .ref a5, .int (nI n0), .int nc, .int (bI ne), .int 0])), (a1, .inl (T 0, 8, .inl (fun k => nI (yv k / 4)))), (a2, .inl (T 2, 8, .inl (fun k => bI (isE (yv k))))), (a3, .inl (T 2, 8, .inl (fun k => bI (isB (yv k))))), (a4, .inl (T 0, 60, .inl (fun k => nI (tw k / 4)))), (a5, .inl (T 2, 60, .inl (fun k => bI (isE (tw k)))))] H := hP
            have hD : va_D A [(q, .inr (4, [.ref a1, .ref a2, .ref a3, .ref a4, .ref a5, .int (nI n0), .int nc, .int (bI ne), .int 0])), (a1, .inl (T 0, 8, .inl (fun k => nI (yv k / 4)))), (a2, .inl (T 2, 8, .inl (fun k => bI (isE (yv k))))), (a3, .inl (T 2, 8, .inl (fun k => bI (isB (yv k))))), (a4, .inl (T 0, 60, .inl (fun k => nI (tw k / 4)))), (a5, .inl (T 2, 60, .inl (fun k => bI (isE (tw k)))))] := hD
            refine lv_i2l hx hb dX8_checksum_78 rfl ?_
            refine lv_ladd hx hb dX8_checksum_79 ?_
            refine zf_l (x' := ckY yv (i + 1)) (rfl) ?_
            refine lv_lstore_n (lv' := [(1, .long (ckY yv (i + 1))), (0, .ref q), (3, .int (nI i))]) hx hb dX8_checksum_80 rfl hl (by decide) rfl (fun ls hl => ?_)
            refine lv_iinc (v := (nI (i + 1))) (lv' := [(3, .int (nI (i + 1))), (1, .long (ckY yv (i + 1))), (0, .ref q)]) hx hb dX8_checksum_81 hl (k := 2) rfl (nI_1 i) (by decide) rfl (fun ls hl => ?_)
            refine lv_goto (tgt := 11) hx hb dX8_checksum_84 (by decide) ?_
            exact ih (i + 1) (by omega) _ _ hP hD hS ls (lv_sub hl [2, 1, 0] rfl)
        · refine lv_iconst (v := 2) hx hb dX8_checksum_44 (by decide) ?_
          refine lv_goto (tgt := 49) hx hb dX8_checksum_45 (by decide) ?_
          refine lv_i2l hx hb dX8_checksum_49 rfl ?_
          refine lv_ladd hx hb dX8_checksum_50 ?_
          refine lv_aload_n hx hb dX8_checksum_51 rfl (lv_at hl 1 rfl) ?_
          refine va_get (D := D) (ci := 4) (v := .ref a2) (C := RX8) (T := TX8) (N := 9) hx hb hts i_X8 hown hK hP 0 rfl rfl 1 (by decide) (hts _ u735) (fun _ h9 => h9) rfl dX8_checksum_52 ?_
          refine lv_iload_n hx hb dX8_checksum_55 rfl (lv_at hl 2 rfl) ?_
          refine za_zald hx hb hK hP 2 rfl i (rfl) (by omega) (by decide) dX8_checksum_56 ?_
          refine zb_eq (tgt := 64) hx hb dX8_checksum_57 (by decide) (fun h8 => ?_) (fun h8 => ?_)
          · refine lv_iconst (v := 0) hx hb dX8_checksum_64 (by decide) ?_
            refine lv_i2l hx hb dX8_checksum_65 rfl ?_
            refine lv_ladd hx hb dX8_checksum_66 ?_
            refine zf_l (x' := 31 * (31 * ckY yv i + Int32.toInt64 (sgI (yv i))) + lN (yv i % 4)) (by rw [kd4 h6 h8]; exact Int64.add_assoc _ _ _) ?_
            refine lv_lstore_n (lv' := [(1, .long (31 * (31 * ckY yv i + Int32.toInt64 (sgI (yv i))) + lN (yv i % 4))), (0, .ref q), (3, .int (nI i))]) hx hb dX8_checksum_67 rfl hl (by decide) rfl (fun ls hl => ?_)
            refine lv_ldc2 hx hb hown (hts _ u937) dX8_checksum_68 ?_
            refine lv_lload_n hx hb dX8_checksum_71 rfl (lv_at hl 0 rfl) ?_
            refine lv_lmul hx hb dX8_checksum_72 ?_
            refine lv_aload_n hx hb dX8_checksum_73 rfl (lv_at hl 1 rfl) ?_
            refine lv_iload_n hx hb dX8_checksum_74 rfl (lv_at hl 2 rfl) ?_
            refine zh_v (T := T) hx hb hml hown hts k_X8_66 (c_X8_fineAt l D T q a1 a2 a3 a4 a5 yv tw n0 nc ne 0 i (show i < 8 by omega) hy) ⟨by decide, by decide⟩ rfl hl.1 [.long (31 * (31 * (31 * ckY yv i + Int32.toInt64 (sgI (yv i))) + lN (yv i % 4)))] rfl (Nat.le_of_ble_eq_true rfl) dX8_checksum_75 ⟨Nat.le_of_ble_eq_true rfl, Nat.le_of_ble_eq_true rfl⟩ hK hP hD hS hA (ci := 4) rfl rfl rfl [0, 1, 2, 3, 4, 5] [] (wr := []) rfl rfl (by decide) (by decide) (by decide) [0, 1, 2, 3, 4, 5] (fun _ => [(q, .inr (4, [.ref a1, .ref a2, .ref a3, .ref a4, .ref a5, .int (nI n0), .int nc, .int (bI ne), .int 0])), (a1, .inl (T 0, 8, .inl (fun k => nI (yv k / 4)))), (a2, .inl (T 2, 8, .inl (fun k => bI (isE (yv k))))), (a3, .inl (T 2, 8, .inl (fun k => bI (isB (yv k))))), (a4, .inl (T 0, 60, .inl (fun k => nI (tw k / 4)))), (a5, .inl (T 2, 60, .inl (fun k => bI (isE (tw k)))))]) (by decide) (fun _ => rfl) (fun _ H locs hP hD hS => ?_)
            have hP : va_P D zcl [(q, .inr (4, [.ref a1, .ref a2, .ref a3, .ref a4, .ref a5, .int (nI n0), .int nc, .int (bI ne), .int 0])), (a1, .inl (T 0, 8, .inl (fun k => nI (yv k / 4)))), (a2, .inl (T 2, 8, .inl (fun k => bI (isE (yv k))))), (a3, .inl (T 2, 8, .inl (fun k => bI (isB (yv k))))), (a4, .inl (T 0, 60, .inl (fun k => nI (tw k / 4)))), (a5, .inl (T 2, 60, .inl (fun k => bI (isE (tw k)))))] H := hP
            have hD : va_D A [(q, .inr (4, [.ref a1, .ref a2, .ref a3, .ref a4, .ref a5, .int (nI n0), .int nc, .int (bI ne), .int 0])), (a1, .inl (T 0, 8, .inl (fun k => nI (yv k / 4)))), (a2, .inl (T 2, 8, .inl (fun k => bI (isE (yv k))))), (a3, .inl (T 2, 8, .inl (fun k => bI (isB (yv k))))), (a4, .inl (T 0, 60, .inl (fun k => nI (tw k / 4)))), (a5, .inl (T 2, 60, .inl (fun k => bI (isE (tw k)))))] := hD
            refine lv_i2l hx hb dX8_checksum_78 rfl ?_
            refine lv_ladd hx hb dX8_checksum_79 ?_
            refine zf_l (x' := ckY yv (i + 1)) (rfl) ?_
            refine lv_lstore_n (lv' := [(1, .long (ckY yv (i + 1))), (0, .ref q), (3, .int (nI i))]) hx hb dX8_checksum_80 rfl hl (by decide) rfl (fun ls hl => ?_)
            refine lv_iinc (v := (nI (i + 1))) (lv' := [(3, .int (nI (i + 1))), (1, .long (ckY yv (i + 1))), (0, .ref q)]) hx hb dX8_checksum_81 hl (k := 2) rfl (nI_1 i) (by decide) rfl (fun ls hl => ?_)
            refine lv_goto (tgt := 11) hx hb dX8_checksum_84 (by decide) ?_
            exact ih (i + 1) (by omega) _ _ hP hD hS ls (lv_sub hl [2, 1, 0] rfl)
          · refine lv_iconst (v := 1) hx hb dX8_checksum_60 (by decide) ?_
            refine lv_goto (tgt := 65) hx hb dX8_checksum_61 (by decide) ?_
            refine lv_i2l hx hb dX8_checksum_65 rfl ?_
            refine lv_ladd hx hb dX8_checksum_66 ?_
            refine zf_l (x' := 31 * (31 * ckY yv i + Int32.toInt64 (sgI (yv i))) + lN (yv i % 4)) (by rw [kd4 h6 h8]; exact Int64.add_assoc _ _ _) ?_
            refine lv_lstore_n (lv' := [(1, .long (31 * (31 * ckY yv i + Int32.toInt64 (sgI (yv i))) + lN (yv i % 4))), (0, .ref q), (3, .int (nI i))]) hx hb dX8_checksum_67 rfl hl (by decide) rfl (fun ls hl => ?_)
            refine lv_ldc2 hx hb hown (hts _ u937) dX8_checksum_68 ?_
            refine lv_lload_n hx hb dX8_checksum_71 rfl (lv_at hl 0 rfl) ?_
            refine lv_lmul hx hb dX8_checksum_72 ?_
            refine lv_aload_n hx hb dX8_checksum_73 rfl (lv_at hl 1 rfl) ?_
            refine lv_iload_n hx hb dX8_checksum_74 rfl (lv_at hl 2 rfl) ?_
            refine zh_v (T := T) hx hb hml hown hts k_X8_66 (c_X8_fineAt l D T q a1 a2 a3 a4 a5 yv tw n0 nc ne 0 i (show i < 8 by omega) hy) ⟨by decide, by decide⟩ rfl hl.1 [.long (31 * (31 * (31 * ckY yv i + Int32.toInt64 (sgI (yv i))) + lN (yv i % 4)))] rfl (Nat.le_of_ble_eq_true rfl) dX8_checksum_75 ⟨Nat.le_of_ble_eq_true rfl, Nat.le_of_ble_eq_true rfl⟩ hK hP hD hS hA (ci := 4) rfl rfl rfl [0, 1, 2, 3, 4, 5] [] (wr := []) rfl rfl (by decide) (by decide) (by decide) [0, 1, 2, 3, 4, 5] (fun _ => [(q, .inr (4, [.ref a1, .ref a2, .ref a3, .ref a4, .ref a5, .int (nI n0), .int nc, .int (bI ne), .int 0])), (a1, .inl (T 0, 8, .inl (fun k => nI (yv k / 4)))), (a2, .inl (T 2, 8, .inl (fun k => bI (isE (yv k))))), (a3, .inl (T 2, 8, .inl (fun k => bI (isB (yv k))))), (a4, .inl (T 0, 60, .inl (fun k => nI (tw k / 4)))), (a5, .inl (T 2, 60, .inl (fun k => bI (isE (tw k)))))]) (by decide) (fun _ => rfl) (fun _ H locs hP hD hS => ?_)
            have hP : va_P D zcl [(q, .inr (4, [.ref a1, .ref a2, .ref a3, .ref a4, .ref a5, .int (nI n0), .int nc, .int (bI ne), .int 0])), (a1, .inl (T 0, 8, .inl (fun k => nI (yv k / 4)))), (a2, .inl (T 2, 8, .inl (fun k => bI (isE (yv k))))), (a3, .inl (T 2, 8, .inl (fun k => bI (isB (yv k))))), (a4, .inl (T 0, 60, .inl (fun k => nI (tw k / 4)))), (a5, .inl (T 2, 60, .inl (fun k => bI (isE (tw k)))))] H := hP
            have hD : va_D A [(q, .inr (4, [.ref a1, .ref a2, .ref a3, .ref a4, .ref a5, .int (nI n0), .int nc, .int (bI ne), .int 0])), (a1, .inl (T 0, 8, .inl (fun k => nI (yv k / 4)))), (a2, .inl (T 2, 8, .inl (fun k => bI (isE (yv k))))), (a3, .inl (T 2, 8, .inl (fun k => bI (isB (yv k))))), (a4, .inl (T 0, 60, .inl (fun k => nI (tw k / 4)))), (a5, .inl (T 2, 60, .inl (fun k => bI (isE (tw k)))))] := hD
            refine lv_i2l hx hb dX8_checksum_78 rfl ?_
            refine lv_ladd hx hb dX8_checksum_79 ?_
            refine zf_l (x' := ckY yv (i + 1)) (rfl) ?_
            refine lv_lstore_n (lv' := [(1, .long (ckY yv (i + 1))), (0, .ref q), (3, .int (nI i))]) hx hb dX8_checksum_80 rfl hl (by decide) rfl (fun ls hl => ?_)
            refine lv_iinc (v := (nI (i + 1))) (lv' := [(3, .int (nI (i + 1))), (1, .long (ckY yv (i + 1))), (0, .ref q)]) hx hb dX8_checksum_81 hl (k := 2) rfl (nI_1 i) (by decide) rfl (fun ls hl => ?_)
            refine lv_goto (tgt := 11) hx hb dX8_checksum_84 (by decide) ?_
            exact ih (i + 1) (by omega) _ _ hP hD hS ls (lv_sub hl [2, 1, 0] rfl)
  exact lp 8 0 (by omega) _ _ hP hD hS ls (lv_sub hl [2, 1, 0] rfl)
