/-! The reference, method by method: what each does to the numbers, what it answers. -/
def up (f : Nat → Nat) (p v : Nat) : Nat → Nat := fun k => if k = p then v else f k
def mk (c : Nat) (e b : Bool) : Nat := 4 * c + (if b = true then 2 else 0) + (if e = true then 1 else 0)
theorem mk_c (c : Nat) (e b : Bool) : mk c e b / 4 = c := by cases e <;> cases b <;> simp [mk] <;> omega
theorem mk_e (c : Nat) (e b : Bool) : isE (mk c e b) = e := by
  unfold isE mk
  cases e <;> cases b <;> simp <;> omega
theorem mk_b (c : Nat) (e b : Bool) : isB (mk c e b) = b := by
  unfold isB mk
  cases e <;> cases b <;> simp <;> omega
theorem mk_lt {c : Nat} (h : c < 65536) (e b : Bool) : mk c e b < 262144 := by unfold mk; split <;> split <;> omega
theorem up_s (f : Nat → Nat) (p v : Nat) : up f p v p = v := if_pos rfl
theorem up_lt {f : Nat → Nat} {p v N : Nat} (h : ∀ k, f k < N) (hv : v < N) : ∀ k, up f p v k < N := fun k => by
  unfold up
  split
  · exact hv
  · exact h k
theorem up_1 (f : Nat → Nat) (p c : Nat) (e b : Bool) (k : Nat) : (if k = p then nI c else nI (f k / 4)) = nI (up f p (mk c e b) k / 4) := by
  unfold up
  split
  · rw [mk_c]
  · rfl
theorem up_2 (f : Nat → Nat) (p c : Nat) (e b : Bool) (k : Nat) : (if k = p then bI e else bI (isE (f k))) = bI (isE (up f p (mk c e b) k)) := by
  unfold up
  split
  · rw [mk_e]
  · rfl
theorem up_3 (f : Nat → Nat) (p c : Nat) (e b : Bool) (k : Nat) : (if k = p then bI b else bI (isB (f k))) = bI (isB (up f p (mk c e b) k)) := by
  unfold up
  split
  · rw [mk_b]
  · rfl
theorem is_ok {p : Nat} (h : p < 8) : m_X8_is (nI p) = true := by
  unfold m_X8_is
  rw [if_neg (nI_pos (by omega)), if_neg (show ¬ (8 : Int32) ≤ nI p from nI_ge h (by decide))]
theorem eig20 {v : Nat} (h : v < 262144) : eig v < 1048576 := Nat.lt_trans (eig_lt h) (by decide)
set_option maxRecDepth 20000 in
theorem c_X8_thrown (l : Launch) (D : va_G) (T : Nat → ClassId) (q a1 a2 a3 a4 a5 : Nat) (yv tw : Nat → Nat) (n0 : Nat) (nc : Int32) (ne : Bool) (th : Int32)  : Hm l yX8_thrown cX8_thrown 1 (some FieldType.int) 0 0 0 D T [.ref q] [(q, .inr (4, [.ref a1, .ref a2, .ref a3, .ref a4, .ref a5, .int (nI n0), .int nc, .int (bI ne), .int th])), (a1, .inl (T 0, 8, .inl (fun k => nI (yv k / 4)))), (a2, .inl (T 2, 8, .inl (fun k => bI (isE (yv k))))), (a3, .inl (T 2, 8, .inl (fun k => bI (isB (yv k))))), (a4, .inl (T 0, 60, .inl (fun k => nI (tw k / 4)))), (a5, .inl (T 2, 60, .inl (fun k => bI (isE (tw k)))))] (some (.int th)) (fun _ : Unit => [(q, .inr (4, [.ref a1, .ref a2, .ref a3, .ref a4, .ref a5, .int (nI n0), .int nc, .int (bI ne), .int th])), (a1, .inl (T 0, 8, .inl (fun k => nI (yv k / 4)))), (a2, .inl (T 2, 8, .inl (fun k => bI (isE (yv k))))), (a3, .inl (T 2, 8, .inl (fun k => bI (isB (yv k))))), (a4, .inl (T 0, 60, .inl (fun k => nI (tw k / 4)))), (a5, .inl (T 2, 60, .inl (fun k => bI (isE (tw k)))))]) := by
  refine Hm.of (by decide) (Nat.le_of_ble_eq_true rfl) ?_
  intro zp ze s zm args below zmeth zc hx hb hr hml hown hin hts hlocks A hA hP hK hD hS ls hl
  have hl : lv_has ls 1 [(0, .ref q)] := hl
  refine lv_aload_n hx hb dX8_thrown_0 rfl (lv_at hl 0 rfl) ?_
  refine va_get (D := D) (ci := 4) (v := .int th) (C := RX8) (T := TX8) (N := 9) hx hb hts i_X8 hown hK hP 0 rfl rfl 8 (by decide) (hts _ u742) (fun _ h9 => h9) rfl dX8_thrown_1 ?_
  exact zh_iret () hx hb hr hlocks dX8_thrown_4 hP hD hS (rfl) (rfl)
set_option maxRecDepth 20000 in
theorem c_X8_isPlace_ok (l : Launch) (D : va_G) (T : Nat → ClassId) (q a1 a2 a3 a4 a5 : Nat) (yv tw : Nat → Nat) (n0 : Nat) (nc : Int32) (ne : Bool) (th : Int32) (p : Nat) (hp : p < 8) : Hm l yX8_isPlace cX8_isPlace 2 (some FieldType.boolean) 1 0 0 D T [.ref q, .int (nI p)] [(q, .inr (4, [.ref a1, .ref a2, .ref a3, .ref a4, .ref a5, .int (nI n0), .int nc, .int (bI ne), .int th])), (a1, .inl (T 0, 8, .inl (fun k => nI (yv k / 4)))), (a2, .inl (T 2, 8, .inl (fun k => bI (isE (yv k))))), (a3, .inl (T 2, 8, .inl (fun k => bI (isB (yv k))))), (a4, .inl (T 0, 60, .inl (fun k => nI (tw k / 4)))), (a5, .inl (T 2, 60, .inl (fun k => bI (isE (tw k)))))] (some (.int (bI true))) (fun _ : Unit => [(q, .inr (4, [.ref a1, .ref a2, .ref a3, .ref a4, .ref a5, .int (nI n0), .int nc, .int (bI ne), .int 0])), (a1, .inl (T 0, 8, .inl (fun k => nI (yv k / 4)))), (a2, .inl (T 2, 8, .inl (fun k => bI (isE (yv k))))), (a3, .inl (T 2, 8, .inl (fun k => bI (isB (yv k))))), (a4, .inl (T 0, 60, .inl (fun k => nI (tw k / 4)))), (a5, .inl (T 2, 60, .inl (fun k => bI (isE (tw k)))))]) := by
  refine Hm.of (by decide) (Nat.le_of_ble_eq_true rfl) ?_
  intro zp ze s zm args below zmeth zc hx hb hr hml hown hin hts hlocks A hA hP hK hD hS ls hl
  have hl : lv_has ls 2 [(0, .ref q), (1, .int (nI p))] := hl
  refine lv_aload_n hx hb dX8_isPlace_0 rfl (lv_at hl 0 rfl) ?_
  refine lv_iload_n hx hb dX8_isPlace_1 rfl (lv_at hl 1 rfl) ?_
  refine zp_call hx hb hml hown hts k_X8_30 (c_X8_is l (nI p)) ⟨by decide, by decide⟩ rfl hl.1 [.ref q] rfl (Nat.le_of_ble_eq_true rfl) dX8_isPlace_2 ⟨by decide, by decide⟩ ?_
  refine zb_eq (tgt := 12) hx hb dX8_isPlace_5 (by decide) (fun h1 => ?_) (fun h1 => ?_)
  · exact absurd ((is_ok hp).symm.trans h1) (by decide)
  · refine lv_iconst (v := 0) hx hb dX8_isPlace_8 (by decide) ?_
    refine lv_goto (tgt := 13) hx hb dX8_isPlace_9 (by decide) ?_
    refine va_put (D := D) (ci := 4) (v := .int 0) (ty := .int) (C := RX8) (T := TX8) (N := 9) hx hb hts i_X8 tyX8 tyX8_ok nmX8 hown hK hP hD hS 0 rfl rfl 8 (by decide) (hts _ u742) (fun _ h9 => h9) rfl (by decide +kernel) rfl rfl (Nat.le_of_ble_eq_true rfl) dX8_isPlace_13 (fun H locs hP hD hS => ?_)
    have hP : va_P D zcl [(q, .inr (4, [.ref a1, .ref a2, .ref a3, .ref a4, .ref a5, .int (nI n0), .int nc, .int (bI ne), .int 0])), (a1, .inl (T 0, 8, .inl (fun k => nI (yv k / 4)))), (a2, .inl (T 2, 8, .inl (fun k => bI (isE (yv k))))), (a3, .inl (T 2, 8, .inl (fun k => bI (isB (yv k))))), (a4, .inl (T 0, 60, .inl (fun k => nI (tw k / 4)))), (a5, .inl (T 2, 60, .inl (fun k => bI (isE (tw k)))))] H := hP
    have hD : va_D A [(q, .inr (4, [.ref a1, .ref a2, .ref a3, .ref a4, .ref a5, .int (nI n0), .int nc, .int (bI ne), .int 0])), (a1, .inl (T 0, 8, .inl (fun k => nI (yv k / 4)))), (a2, .inl (T 2, 8, .inl (fun k => bI (isE (yv k))))), (a3, .inl (T 2, 8, .inl (fun k => bI (isB (yv k))))), (a4, .inl (T 0, 60, .inl (fun k => nI (tw k / 4)))), (a5, .inl (T 2, 60, .inl (fun k => bI (isE (tw k)))))] := hD
    refine lv_aload_n hx hb dX8_isPlace_16 rfl (lv_at hl 0 rfl) ?_
    refine va_get (D := D) (ci := 4) (v := .int 0) (C := RX8) (T := TX8) (N := 9) hx hb hts i_X8 hown hK hP 0 rfl rfl 8 (by decide) (hts _ u742) (fun _ h9 => h9) rfl dX8_isPlace_17 ?_
    refine lv_if_ne (tgt := 27) hx hb dX8_isPlace_20 (by decide) (fun h2 => ?_) (fun h2 => ?_)
    · exact absurd h2 (by decide)
    · refine lv_iconst (v := 1) hx hb dX8_isPlace_23 (by decide) ?_
      refine lv_goto (tgt := 28) hx hb dX8_isPlace_24 (by decide) ?_
      exact zh_zret () hx hb hr hlocks dX8_isPlace_28 hP hD hS (rfl) (rfl)
set_option maxRecDepth 20000 in
theorem c_X8_isPlace_no (l : Launch) (D : va_G) (T : Nat → ClassId) (q a1 a2 a3 a4 a5 : Nat) (yv tw : Nat → Nat) (n0 : Nat) (nc : Int32) (ne : Bool) (th : Int32) (x : Int32) (hx0 : m_X8_is x = false) : Hm l yX8_isPlace cX8_isPlace 2 (some FieldType.boolean) 1 0 0 D T [.ref q, .int x] [(q, .inr (4, [.ref a1, .ref a2, .ref a3, .ref a4, .ref a5, .int (nI n0), .int nc, .int (bI ne), .int th])), (a1, .inl (T 0, 8, .inl (fun k => nI (yv k / 4)))), (a2, .inl (T 2, 8, .inl (fun k => bI (isE (yv k))))), (a3, .inl (T 2, 8, .inl (fun k => bI (isB (yv k))))), (a4, .inl (T 0, 60, .inl (fun k => nI (tw k / 4)))), (a5, .inl (T 2, 60, .inl (fun k => bI (isE (tw k)))))] (some (.int (bI false))) (fun _ : Unit => [(q, .inr (4, [.ref a1, .ref a2, .ref a3, .ref a4, .ref a5, .int (nI n0), .int nc, .int (bI ne), .int 1])), (a1, .inl (T 0, 8, .inl (fun k => nI (yv k / 4)))), (a2, .inl (T 2, 8, .inl (fun k => bI (isE (yv k))))), (a3, .inl (T 2, 8, .inl (fun k => bI (isB (yv k))))), (a4, .inl (T 0, 60, .inl (fun k => nI (tw k / 4)))), (a5, .inl (T 2, 60, .inl (fun k => bI (isE (tw k)))))]) := by
  refine Hm.of (by decide) (Nat.le_of_ble_eq_true rfl) ?_
  intro zp ze s zm args below zmeth zc hx hb hr hml hown hin hts hlocks A hA hP hK hD hS ls hl
  have hl : lv_has ls 2 [(0, .ref q), (1, .int x)] := hl
  refine lv_aload_n hx hb dX8_isPlace_0 rfl (lv_at hl 0 rfl) ?_
  refine lv_iload_n hx hb dX8_isPlace_1 rfl (lv_at hl 1 rfl) ?_
  refine zp_call hx hb hml hown hts k_X8_30 (c_X8_is l x) ⟨by decide, by decide⟩ rfl hl.1 [.ref q] rfl (Nat.le_of_ble_eq_true rfl) dX8_isPlace_2 ⟨by decide, by decide⟩ ?_
  refine zb_eq (tgt := 12) hx hb dX8_isPlace_5 (by decide) (fun h1 => ?_) (fun h1 => ?_)
  · refine lv_iconst (v := 1) hx hb dX8_isPlace_12 (by decide) ?_
    refine va_put (D := D) (ci := 4) (v := .int 1) (ty := .int) (C := RX8) (T := TX8) (N := 9) hx hb hts i_X8 tyX8 tyX8_ok nmX8 hown hK hP hD hS 0 rfl rfl 8 (by decide) (hts _ u742) (fun _ h9 => h9) rfl (by decide +kernel) rfl rfl (Nat.le_of_ble_eq_true rfl) dX8_isPlace_13 (fun H locs hP hD hS => ?_)
    have hP : va_P D zcl [(q, .inr (4, [.ref a1, .ref a2, .ref a3, .ref a4, .ref a5, .int (nI n0), .int nc, .int (bI ne), .int 1])), (a1, .inl (T 0, 8, .inl (fun k => nI (yv k / 4)))), (a2, .inl (T 2, 8, .inl (fun k => bI (isE (yv k))))), (a3, .inl (T 2, 8, .inl (fun k => bI (isB (yv k))))), (a4, .inl (T 0, 60, .inl (fun k => nI (tw k / 4)))), (a5, .inl (T 2, 60, .inl (fun k => bI (isE (tw k)))))] H := hP
    have hD : va_D A [(q, .inr (4, [.ref a1, .ref a2, .ref a3, .ref a4, .ref a5, .int (nI n0), .int nc, .int (bI ne), .int 1])), (a1, .inl (T 0, 8, .inl (fun k => nI (yv k / 4)))), (a2, .inl (T 2, 8, .inl (fun k => bI (isE (yv k))))), (a3, .inl (T 2, 8, .inl (fun k => bI (isB (yv k))))), (a4, .inl (T 0, 60, .inl (fun k => nI (tw k / 4)))), (a5, .inl (T 2, 60, .inl (fun k => bI (isE (tw k)))))] := hD
    refine lv_aload_n hx hb dX8_isPlace_16 rfl (lv_at hl 0 rfl) ?_
    refine va_get (D := D) (ci := 4) (v := .int 1) (C := RX8) (T := TX8) (N := 9) hx hb hts i_X8 hown hK hP 0 rfl rfl 8 (by decide) (hts _ u742) (fun _ h9 => h9) rfl dX8_isPlace_17 ?_
    refine lv_if_ne (tgt := 27) hx hb dX8_isPlace_20 (by decide) (fun h2 => ?_) (fun h2 => ?_)
    · refine lv_iconst (v := 0) hx hb dX8_isPlace_27 (by decide) ?_
      exact zh_zret () hx hb hr hlocks dX8_isPlace_28 hP hD hS (rfl) (rfl)
    · exact absurd h2 (by decide)
  · exact absurd (hx0.symm.trans h1) (by decide)
set_option maxRecDepth 20000 in
theorem c_X8_arePlaces_ok (l : Launch) (D : va_G) (T : Nat → ClassId) (q a1 a2 a3 a4 a5 : Nat) (yv tw : Nat → Nat) (n0 : Nat) (nc : Int32) (ne : Bool) (th : Int32) (p : Nat) (hp : p < 8) (p2 : Nat) (hp2 : p2 < 8) : Hm l yX8_arePlaces cX8_arePlaces 3 (some FieldType.boolean) 1 0 0 D T [.ref q, .int (nI p), .int (nI p2)] [(q, .inr (4, [.ref a1, .ref a2, .ref a3, .ref a4, .ref a5, .int (nI n0), .int nc, .int (bI ne), .int th])), (a1, .inl (T 0, 8, .inl (fun k => nI (yv k / 4)))), (a2, .inl (T 2, 8, .inl (fun k => bI (isE (yv k))))), (a3, .inl (T 2, 8, .inl (fun k => bI (isB (yv k))))), (a4, .inl (T 0, 60, .inl (fun k => nI (tw k / 4)))), (a5, .inl (T 2, 60, .inl (fun k => bI (isE (tw k)))))] (some (.int (bI true))) (fun _ : Unit => [(q, .inr (4, [.ref a1, .ref a2, .ref a3, .ref a4, .ref a5, .int (nI n0), .int nc, .int (bI ne), .int 0])), (a1, .inl (T 0, 8, .inl (fun k => nI (yv k / 4)))), (a2, .inl (T 2, 8, .inl (fun k => bI (isE (yv k))))), (a3, .inl (T 2, 8, .inl (fun k => bI (isB (yv k))))), (a4, .inl (T 0, 60, .inl (fun k => nI (tw k / 4)))), (a5, .inl (T 2, 60, .inl (fun k => bI (isE (tw k)))))]) := by
  refine Hm.of (by decide) (Nat.le_of_ble_eq_true rfl) ?_
  intro zp ze s zm args below zmeth zc hx hb hr hml hown hin hts hlocks A hA hP hK hD hS ls hl
  have hl : lv_has ls 3 [(0, .ref q), (1, .int (nI p)), (2, .int (nI p2))] := hl
  refine lv_aload_n hx hb dX8_arePlaces_0 rfl (lv_at hl 0 rfl) ?_
  refine lv_iload_n hx hb dX8_arePlaces_1 rfl (lv_at hl 1 rfl) ?_
  refine zp_call hx hb hml hown hts k_X8_30 (c_X8_is l (nI p)) ⟨by decide, by decide⟩ rfl hl.1 [.ref q] rfl (Nat.le_of_ble_eq_true rfl) dX8_arePlaces_2 ⟨by decide, by decide⟩ ?_
  refine zb_eq (tgt := 19) hx hb dX8_arePlaces_5 (by decide) (fun h1 => ?_) (fun h1 => ?_)
  · exact absurd ((is_ok hp).symm.trans h1) (by decide)
  · refine lv_iload_n hx hb dX8_arePlaces_8 rfl (lv_at hl 2 rfl) ?_
    refine zp_call hx hb hml hown hts k_X8_30 (c_X8_is l (nI p2)) ⟨by decide, by decide⟩ rfl hl.1 [.ref q] rfl (Nat.le_of_ble_eq_true rfl) dX8_arePlaces_9 ⟨by decide, by decide⟩ ?_
    refine zb_eq (tgt := 19) hx hb dX8_arePlaces_12 (by decide) (fun h2 => ?_) (fun h2 => ?_)
    · exact absurd ((is_ok hp2).symm.trans h2) (by decide)
    · refine lv_iconst (v := 0) hx hb dX8_arePlaces_15 (by decide) ?_
      refine lv_goto (tgt := 20) hx hb dX8_arePlaces_16 (by decide) ?_
      refine va_put (D := D) (ci := 4) (v := .int 0) (ty := .int) (C := RX8) (T := TX8) (N := 9) hx hb hts i_X8 tyX8 tyX8_ok nmX8 hown hK hP hD hS 0 rfl rfl 8 (by decide) (hts _ u742) (fun _ h9 => h9) rfl (by decide +kernel) rfl rfl (Nat.le_of_ble_eq_true rfl) dX8_arePlaces_20 (fun H locs hP hD hS => ?_)
      have hP : va_P D zcl [(q, .inr (4, [.ref a1, .ref a2, .ref a3, .ref a4, .ref a5, .int (nI n0), .int nc, .int (bI ne), .int 0])), (a1, .inl (T 0, 8, .inl (fun k => nI (yv k / 4)))), (a2, .inl (T 2, 8, .inl (fun k => bI (isE (yv k))))), (a3, .inl (T 2, 8, .inl (fun k => bI (isB (yv k))))), (a4, .inl (T 0, 60, .inl (fun k => nI (tw k / 4)))), (a5, .inl (T 2, 60, .inl (fun k => bI (isE (tw k)))))] H := hP
      have hD : va_D A [(q, .inr (4, [.ref a1, .ref a2, .ref a3, .ref a4, .ref a5, .int (nI n0), .int nc, .int (bI ne), .int 0])), (a1, .inl (T 0, 8, .inl (fun k => nI (yv k / 4)))), (a2, .inl (T 2, 8, .inl (fun k => bI (isE (yv k))))), (a3, .inl (T 2, 8, .inl (fun k => bI (isB (yv k))))), (a4, .inl (T 0, 60, .inl (fun k => nI (tw k / 4)))), (a5, .inl (T 2, 60, .inl (fun k => bI (isE (tw k)))))] := hD
      refine lv_aload_n hx hb dX8_arePlaces_23 rfl (lv_at hl 0 rfl) ?_
      refine va_get (D := D) (ci := 4) (v := .int 0) (C := RX8) (T := TX8) (N := 9) hx hb hts i_X8 hown hK hP 0 rfl rfl 8 (by decide) (hts _ u742) (fun _ h9 => h9) rfl dX8_arePlaces_24 ?_
      refine lv_if_ne (tgt := 34) hx hb dX8_arePlaces_27 (by decide) (fun h3 => ?_) (fun h3 => ?_)
      · exact absurd h3 (by decide)
      · refine lv_iconst (v := 1) hx hb dX8_arePlaces_30 (by decide) ?_
        refine lv_goto (tgt := 35) hx hb dX8_arePlaces_31 (by decide) ?_
        exact zh_zret () hx hb hr hlocks dX8_arePlaces_35 hP hD hS (rfl) (rfl)
set_option maxRecDepth 20000 in
theorem c_X8_arePlaces_no (l : Launch) (D : va_G) (T : Nat → ClassId) (q a1 a2 a3 a4 a5 : Nat) (yv tw : Nat → Nat) (n0 : Nat) (nc : Int32) (ne : Bool) (th : Int32) (x y : Int32) (hx0 : (m_X8_is x && m_X8_is y) = false) : Hm l yX8_arePlaces cX8_arePlaces 3 (some FieldType.boolean) 1 0 0 D T [.ref q, .int x, .int y] [(q, .inr (4, [.ref a1, .ref a2, .ref a3, .ref a4, .ref a5, .int (nI n0), .int nc, .int (bI ne), .int th])), (a1, .inl (T 0, 8, .inl (fun k => nI (yv k / 4)))), (a2, .inl (T 2, 8, .inl (fun k => bI (isE (yv k))))), (a3, .inl (T 2, 8, .inl (fun k => bI (isB (yv k))))), (a4, .inl (T 0, 60, .inl (fun k => nI (tw k / 4)))), (a5, .inl (T 2, 60, .inl (fun k => bI (isE (tw k)))))] (some (.int (bI false))) (fun _ : Unit => [(q, .inr (4, [.ref a1, .ref a2, .ref a3, .ref a4, .ref a5, .int (nI n0), .int nc, .int (bI ne), .int 1])), (a1, .inl (T 0, 8, .inl (fun k => nI (yv k / 4)))), (a2, .inl (T 2, 8, .inl (fun k => bI (isE (yv k))))), (a3, .inl (T 2, 8, .inl (fun k => bI (isB (yv k))))), (a4, .inl (T 0, 60, .inl (fun k => nI (tw k / 4)))), (a5, .inl (T 2, 60, .inl (fun k => bI (isE (tw k)))))]) := by
  refine Hm.of (by decide) (Nat.le_of_ble_eq_true rfl) ?_
  intro zp ze s zm args below zmeth zc hx hb hr hml hown hin hts hlocks A hA hP hK hD hS ls hl
  have hl : lv_has ls 3 [(0, .ref q), (1, .int x), (2, .int y)] := hl
  refine lv_aload_n hx hb dX8_arePlaces_0 rfl (lv_at hl 0 rfl) ?_
  refine lv_iload_n hx hb dX8_arePlaces_1 rfl (lv_at hl 1 rfl) ?_
  refine zp_call hx hb hml hown hts k_X8_30 (c_X8_is l x) ⟨by decide, by decide⟩ rfl hl.1 [.ref q] rfl (Nat.le_of_ble_eq_true rfl) dX8_arePlaces_2 ⟨by decide, by decide⟩ ?_
  refine zb_eq (tgt := 19) hx hb dX8_arePlaces_5 (by decide) (fun h1 => ?_) (fun h1 => ?_)
  · refine lv_iconst (v := 1) hx hb dX8_arePlaces_19 (by decide) ?_
    refine va_put (D := D) (ci := 4) (v := .int 1) (ty := .int) (C := RX8) (T := TX8) (N := 9) hx hb hts i_X8 tyX8 tyX8_ok nmX8 hown hK hP hD hS 0 rfl rfl 8 (by decide) (hts _ u742) (fun _ h9 => h9) rfl (by decide +kernel) rfl rfl (Nat.le_of_ble_eq_true rfl) dX8_arePlaces_20 (fun H locs hP hD hS => ?_)
    have hP : va_P D zcl [(q, .inr (4, [.ref a1, .ref a2, .ref a3, .ref a4, .ref a5, .int (nI n0), .int nc, .int (bI ne), .int 1])), (a1, .inl (T 0, 8, .inl (fun k => nI (yv k / 4)))), (a2, .inl (T 2, 8, .inl (fun k => bI (isE (yv k))))), (a3, .inl (T 2, 8, .inl (fun k => bI (isB (yv k))))), (a4, .inl (T 0, 60, .inl (fun k => nI (tw k / 4)))), (a5, .inl (T 2, 60, .inl (fun k => bI (isE (tw k)))))] H := hP
    have hD : va_D A [(q, .inr (4, [.ref a1, .ref a2, .ref a3, .ref a4, .ref a5, .int (nI n0), .int nc, .int (bI ne), .int 1])), (a1, .inl (T 0, 8, .inl (fun k => nI (yv k / 4)))), (a2, .inl (T 2, 8, .inl (fun k => bI (isE (yv k))))), (a3, .inl (T 2, 8, .inl (fun k => bI (isB (yv k))))), (a4, .inl (T 0, 60, .inl (fun k => nI (tw k / 4)))), (a5, .inl (T 2, 60, .inl (fun k => bI (isE (tw k)))))] := hD
    refine lv_aload_n hx hb dX8_arePlaces_23 rfl (lv_at hl 0 rfl) ?_
    refine va_get (D := D) (ci := 4) (v := .int 1) (C := RX8) (T := TX8) (N := 9) hx hb hts i_X8 hown hK hP 0 rfl rfl 8 (by decide) (hts _ u742) (fun _ h9 => h9) rfl dX8_arePlaces_24 ?_
    refine lv_if_ne (tgt := 34) hx hb dX8_arePlaces_27 (by decide) (fun h2 => ?_) (fun h2 => ?_)
    · refine lv_iconst (v := 0) hx hb dX8_arePlaces_34 (by decide) ?_
      exact zh_zret () hx hb hr hlocks dX8_arePlaces_35 hP hD hS (rfl) (rfl)
    · exact absurd h2 (by decide)
  · refine lv_iload_n hx hb dX8_arePlaces_8 rfl (lv_at hl 2 rfl) ?_
    refine zp_call hx hb hml hown hts k_X8_30 (c_X8_is l y) ⟨by decide, by decide⟩ rfl hl.1 [.ref q] rfl (Nat.le_of_ble_eq_true rfl) dX8_arePlaces_9 ⟨by decide, by decide⟩ ?_
    refine zb_eq (tgt := 19) hx hb dX8_arePlaces_12 (by decide) (fun h3 => ?_) (fun h3 => ?_)
    · refine lv_iconst (v := 1) hx hb dX8_arePlaces_19 (by decide) ?_
      refine va_put (D := D) (ci := 4) (v := .int 1) (ty := .int) (C := RX8) (T := TX8) (N := 9) hx hb hts i_X8 tyX8 tyX8_ok nmX8 hown hK hP hD hS 0 rfl rfl 8 (by decide) (hts _ u742) (fun _ h9 => h9) rfl (by decide +kernel) rfl rfl (Nat.le_of_ble_eq_true rfl) dX8_arePlaces_20 (fun H locs hP hD hS => ?_)
      have hP : va_P D zcl [(q, .inr (4, [.ref a1, .ref a2, .ref a3, .ref a4, .ref a5, .int (nI n0), .int nc, .int (bI ne), .int 1])), (a1, .inl (T 0, 8, .inl (fun k => nI (yv k / 4)))), (a2, .inl (T 2, 8, .inl (fun k => bI (isE (yv k))))), (a3, .inl (T 2, 8, .inl (fun k => bI (isB (yv k))))), (a4, .inl (T 0, 60, .inl (fun k => nI (tw k / 4)))), (a5, .inl (T 2, 60, .inl (fun k => bI (isE (tw k)))))] H := hP
      have hD : va_D A [(q, .inr (4, [.ref a1, .ref a2, .ref a3, .ref a4, .ref a5, .int (nI n0), .int nc, .int (bI ne), .int 1])), (a1, .inl (T 0, 8, .inl (fun k => nI (yv k / 4)))), (a2, .inl (T 2, 8, .inl (fun k => bI (isE (yv k))))), (a3, .inl (T 2, 8, .inl (fun k => bI (isB (yv k))))), (a4, .inl (T 0, 60, .inl (fun k => nI (tw k / 4)))), (a5, .inl (T 2, 60, .inl (fun k => bI (isE (tw k)))))] := hD
      refine lv_aload_n hx hb dX8_arePlaces_23 rfl (lv_at hl 0 rfl) ?_
      refine va_get (D := D) (ci := 4) (v := .int 1) (C := RX8) (T := TX8) (N := 9) hx hb hts i_X8 hown hK hP 0 rfl rfl 8 (by decide) (hts _ u742) (fun _ h9 => h9) rfl dX8_arePlaces_24 ?_
      refine lv_if_ne (tgt := 34) hx hb dX8_arePlaces_27 (by decide) (fun h4 => ?_) (fun h4 => ?_)
      · refine lv_iconst (v := 0) hx hb dX8_arePlaces_34 (by decide) ?_
        exact zh_zret () hx hb hr hlocks dX8_arePlaces_35 hP hD hS (rfl) (rfl)
      · exact absurd h4 (by decide)
    · exact absurd ((Bool.and_eq_true _ _).mpr ⟨h1, h3⟩) (by rw [hx0]; decide)
set_option maxRecDepth 20000 in
theorem c_X8_size (l : Launch) (D : va_G) (T : Nat → ClassId) (q a1 a2 a3 a4 a5 : Nat) (yv tw : Nat → Nat) (n0 : Nat) (nc : Int32) (ne : Bool) (th : Int32) (p : Nat) (hp : p < 8) : Hm l yX8_size cX8_size 2 (some FieldType.int) 1 0 0 D T [.ref q, .int (nI p)] [(q, .inr (4, [.ref a1, .ref a2, .ref a3, .ref a4, .ref a5, .int (nI n0), .int nc, .int (bI ne), .int th])), (a1, .inl (T 0, 8, .inl (fun k => nI (yv k / 4)))), (a2, .inl (T 2, 8, .inl (fun k => bI (isE (yv k))))), (a3, .inl (T 2, 8, .inl (fun k => bI (isB (yv k))))), (a4, .inl (T 0, 60, .inl (fun k => nI (tw k / 4)))), (a5, .inl (T 2, 60, .inl (fun k => bI (isE (tw k)))))] (some (.int (nI (eig (yv p))))) (fun _ : Unit => [(q, .inr (4, [.ref a1, .ref a2, .ref a3, .ref a4, .ref a5, .int (nI n0), .int nc, .int (bI ne), .int th])), (a1, .inl (T 0, 8, .inl (fun k => nI (yv k / 4)))), (a2, .inl (T 2, 8, .inl (fun k => bI (isE (yv k))))), (a3, .inl (T 2, 8, .inl (fun k => bI (isB (yv k))))), (a4, .inl (T 0, 60, .inl (fun k => nI (tw k / 4)))), (a5, .inl (T 2, 60, .inl (fun k => bI (isE (tw k)))))]) := by
  refine Hm.of (by decide) (Nat.le_of_ble_eq_true rfl) ?_
  intro zp ze s zm args below zmeth zc hx hb hr hml hown hin hts hlocks A hA hP hK hD hS ls hl
  have hl : lv_has ls 2 [(0, .ref q), (1, .int (nI p))] := hl
  refine lv_aload_n hx hb dX8_size_0 rfl (lv_at hl 0 rfl) ?_
  refine va_get (D := D) (ci := 4) (v := .ref a1) (C := RX8) (T := TX8) (N := 9) hx hb hts i_X8 hown hK hP 0 rfl rfl 0 (by decide) (hts _ u734) (fun _ h9 => h9) rfl dX8_size_1 ?_
  refine lv_iload_n hx hb dX8_size_4 rfl (lv_at hl 1 rfl) ?_
  refine za_iald hx hb hK hP 1 rfl p (rfl) (by omega) (by decide) dX8_size_5 ?_
  refine lv_aload_n hx hb dX8_size_6 rfl (lv_at hl 0 rfl) ?_
  refine va_get (D := D) (ci := 4) (v := .ref a2) (C := RX8) (T := TX8) (N := 9) hx hb hts i_X8 hown hK hP 0 rfl rfl 1 (by decide) (hts _ u735) (fun _ h9 => h9) rfl dX8_size_7 ?_
  refine lv_iload_n hx hb dX8_size_10 rfl (lv_at hl 1 rfl) ?_
  refine za_zald hx hb hK hP 2 rfl p (rfl) (by omega) (by decide) dX8_size_11 ?_
  refine zp_call hx hb hml hown hts k_X8_35 (c_X8_eighthsOf l (nI (yv p / 4)) (isE (yv p))) ⟨by decide, by decide⟩ rfl hl.1 [] rfl (Nat.le_of_ble_eq_true rfl) dX8_size_12 ⟨Nat.le_of_ble_eq_true rfl, Nat.le_of_ble_eq_true rfl⟩ ?_
  refine zf_i (x' := nI (eig (yv p))) (e8_c) ?_
  exact zh_iret () hx hb hr hlocks dX8_size_15 hP hD hS (rfl) (rfl)
set_option maxRecDepth 20000 in
theorem c_X8_signed (l : Launch) (D : va_G) (T : Nat → ClassId) (q a1 a2 a3 a4 a5 : Nat) (yv tw : Nat → Nat) (n0 : Nat) (nc : Int32) (ne : Bool) (th : Int32) (p : Nat) (hp : p < 8) : Hm l yX8_signed cX8_signed 2 (some FieldType.int) 2 0 0 D T [.ref q, .int (nI p)] [(q, .inr (4, [.ref a1, .ref a2, .ref a3, .ref a4, .ref a5, .int (nI n0), .int nc, .int (bI ne), .int th])), (a1, .inl (T 0, 8, .inl (fun k => nI (yv k / 4)))), (a2, .inl (T 2, 8, .inl (fun k => bI (isE (yv k))))), (a3, .inl (T 2, 8, .inl (fun k => bI (isB (yv k))))), (a4, .inl (T 0, 60, .inl (fun k => nI (tw k / 4)))), (a5, .inl (T 2, 60, .inl (fun k => bI (isE (tw k)))))] (some (.int (sgI (yv p)))) (fun _ : Unit => [(q, .inr (4, [.ref a1, .ref a2, .ref a3, .ref a4, .ref a5, .int (nI n0), .int nc, .int (bI ne), .int th])), (a1, .inl (T 0, 8, .inl (fun k => nI (yv k / 4)))), (a2, .inl (T 2, 8, .inl (fun k => bI (isE (yv k))))), (a3, .inl (T 2, 8, .inl (fun k => bI (isB (yv k))))), (a4, .inl (T 0, 60, .inl (fun k => nI (tw k / 4)))), (a5, .inl (T 2, 60, .inl (fun k => bI (isE (tw k)))))]) := by
  refine Hm.of (by decide) (Nat.le_of_ble_eq_true rfl) ?_
  intro zp ze s zm args below zmeth zc hx hb hr hml hown hin hts hlocks A hA hP hK hD hS ls hl
  have hl : lv_has ls 2 [(0, .ref q), (1, .int (nI p))] := hl
  refine lv_aload_n hx hb dX8_signed_0 rfl (lv_at hl 0 rfl) ?_
  refine va_get (D := D) (ci := 4) (v := .ref a3) (C := RX8) (T := TX8) (N := 9) hx hb hts i_X8 hown hK hP 0 rfl rfl 2 (by decide) (hts _ u736) (fun _ h9 => h9) rfl dX8_signed_1 ?_
  refine lv_iload_n hx hb dX8_signed_4 rfl (lv_at hl 1 rfl) ?_
  refine za_zald hx hb hK hP 3 rfl p (rfl) (by omega) (by decide) dX8_signed_5 ?_
  refine zb_eq (tgt := 18) hx hb dX8_signed_6 (by decide) (fun h1 => ?_) (fun h1 => ?_)
  · refine lv_aload_n hx hb dX8_signed_18 rfl (lv_at hl 0 rfl) ?_
    refine lv_iload_n hx hb dX8_signed_19 rfl (lv_at hl 1 rfl) ?_
    refine zh_v (T := T) hx hb hml hown hts k_X8_39 (c_X8_size l D T q a1 a2 a3 a4 a5 yv tw n0 nc ne th p hp) ⟨by decide, by decide⟩ rfl hl.1 [] rfl (Nat.le_of_ble_eq_true rfl) dX8_signed_20 ⟨Nat.le_of_ble_eq_true rfl, Nat.le_of_ble_eq_true rfl⟩ hK hP hD hS hA (ci := 4) rfl rfl rfl [0, 1, 2, 3, 4, 5] [] (wr := []) rfl rfl (by decide) (by decide) (by decide) [0, 1, 2, 3, 4, 5] (fun _ => [(q, .inr (4, [.ref a1, .ref a2, .ref a3, .ref a4, .ref a5, .int (nI n0), .int nc, .int (bI ne), .int th])), (a1, .inl (T 0, 8, .inl (fun k => nI (yv k / 4)))), (a2, .inl (T 2, 8, .inl (fun k => bI (isE (yv k))))), (a3, .inl (T 2, 8, .inl (fun k => bI (isB (yv k))))), (a4, .inl (T 0, 60, .inl (fun k => nI (tw k / 4)))), (a5, .inl (T 2, 60, .inl (fun k => bI (isE (tw k)))))]) (by decide) (fun _ => rfl) (fun _ H locs hP hD hS => ?_)
    have hP : va_P D zcl [(q, .inr (4, [.ref a1, .ref a2, .ref a3, .ref a4, .ref a5, .int (nI n0), .int nc, .int (bI ne), .int th])), (a1, .inl (T 0, 8, .inl (fun k => nI (yv k / 4)))), (a2, .inl (T 2, 8, .inl (fun k => bI (isE (yv k))))), (a3, .inl (T 2, 8, .inl (fun k => bI (isB (yv k))))), (a4, .inl (T 0, 60, .inl (fun k => nI (tw k / 4)))), (a5, .inl (T 2, 60, .inl (fun k => bI (isE (tw k)))))] H := hP
    have hD : va_D A [(q, .inr (4, [.ref a1, .ref a2, .ref a3, .ref a4, .ref a5, .int (nI n0), .int nc, .int (bI ne), .int th])), (a1, .inl (T 0, 8, .inl (fun k => nI (yv k / 4)))), (a2, .inl (T 2, 8, .inl (fun k => bI (isE (yv k))))), (a3, .inl (T 2, 8, .inl (fun k => bI (isB (yv k))))), (a4, .inl (T 0, 60, .inl (fun k => nI (tw k / 4)))), (a5, .inl (T 2, 60, .inl (fun k => bI (isE (tw k)))))] := hD
    exact zh_iret () hx hb hr hlocks dX8_signed_23 hP hD hS ((zif_neg (zbf h1) rfl)) (rfl)
  · refine lv_aload_n hx hb dX8_signed_9 rfl (lv_at hl 0 rfl) ?_
    refine lv_iload_n hx hb dX8_signed_10 rfl (lv_at hl 1 rfl) ?_
    refine zh_v (T := T) hx hb hml hown hts k_X8_39 (c_X8_size l D T q a1 a2 a3 a4 a5 yv tw n0 nc ne th p hp) ⟨by decide, by decide⟩ rfl hl.1 [] rfl (Nat.le_of_ble_eq_true rfl) dX8_signed_11 ⟨Nat.le_of_ble_eq_true rfl, Nat.le_of_ble_eq_true rfl⟩ hK hP hD hS hA (ci := 4) rfl rfl rfl [0, 1, 2, 3, 4, 5] [] (wr := []) rfl rfl (by decide) (by decide) (by decide) [0, 1, 2, 3, 4, 5] (fun _ => [(q, .inr (4, [.ref a1, .ref a2, .ref a3, .ref a4, .ref a5, .int (nI n0), .int nc, .int (bI ne), .int th])), (a1, .inl (T 0, 8, .inl (fun k => nI (yv k / 4)))), (a2, .inl (T 2, 8, .inl (fun k => bI (isE (yv k))))), (a3, .inl (T 2, 8, .inl (fun k => bI (isB (yv k))))), (a4, .inl (T 0, 60, .inl (fun k => nI (tw k / 4)))), (a5, .inl (T 2, 60, .inl (fun k => bI (isE (tw k)))))]) (by decide) (fun _ => rfl) (fun _ H locs hP hD hS => ?_)
    have hP : va_P D zcl [(q, .inr (4, [.ref a1, .ref a2, .ref a3, .ref a4, .ref a5, .int (nI n0), .int nc, .int (bI ne), .int th])), (a1, .inl (T 0, 8, .inl (fun k => nI (yv k / 4)))), (a2, .inl (T 2, 8, .inl (fun k => bI (isE (yv k))))), (a3, .inl (T 2, 8, .inl (fun k => bI (isB (yv k))))), (a4, .inl (T 0, 60, .inl (fun k => nI (tw k / 4)))), (a5, .inl (T 2, 60, .inl (fun k => bI (isE (tw k)))))] H := hP
    have hD : va_D A [(q, .inr (4, [.ref a1, .ref a2, .ref a3, .ref a4, .ref a5, .int (nI n0), .int nc, .int (bI ne), .int th])), (a1, .inl (T 0, 8, .inl (fun k => nI (yv k / 4)))), (a2, .inl (T 2, 8, .inl (fun k => bI (isE (yv k))))), (a3, .inl (T 2, 8, .inl (fun k => bI (isB (yv k))))), (a4, .inl (T 0, 60, .inl (fun k => nI (tw k / 4)))), (a5, .inl (T 2, 60, .inl (fun k => bI (isE (tw k)))))] := hD
    refine lv_ineg hx hb dX8_signed_14 ?_
    refine lv_goto (tgt := 23) hx hb dX8_signed_15 (by decide) ?_
    exact zh_iret () hx hb hr hlocks dX8_signed_23 hP hD hS ((zif_pos h1 rfl)) (rfl)
set_option maxRecDepth 20000 in
theorem c_X8_fineAt (l : Launch) (D : va_G) (T : Nat → ClassId) (q a1 a2 a3 a4 a5 : Nat) (yv tw : Nat → Nat) (n0 : Nat) (nc : Int32) (ne : Bool) (th : Int32) (p : Nat) (hp : p < 8) (hy : ∀ k, yv k < 262144) : Hm l yX8_fineAt cX8_fineAt 2 (some FieldType.int) 2 0 0 D T [.ref q, .int (nI p)] [(q, .inr (4, [.ref a1, .ref a2, .ref a3, .ref a4, .ref a5, .int (nI n0), .int nc, .int (bI ne), .int th])), (a1, .inl (T 0, 8, .inl (fun k => nI (yv k / 4)))), (a2, .inl (T 2, 8, .inl (fun k => bI (isE (yv k))))), (a3, .inl (T 2, 8, .inl (fun k => bI (isB (yv k))))), (a4, .inl (T 0, 60, .inl (fun k => nI (tw k / 4)))), (a5, .inl (T 2, 60, .inl (fun k => bI (isE (tw k)))))] (some (.int (fI (yv p)))) (fun _ : Unit => [(q, .inr (4, [.ref a1, .ref a2, .ref a3, .ref a4, .ref a5, .int (nI n0), .int nc, .int (bI ne), .int th])), (a1, .inl (T 0, 8, .inl (fun k => nI (yv k / 4)))), (a2, .inl (T 2, 8, .inl (fun k => bI (isE (yv k))))), (a3, .inl (T 2, 8, .inl (fun k => bI (isB (yv k))))), (a4, .inl (T 0, 60, .inl (fun k => nI (tw k / 4)))), (a5, .inl (T 2, 60, .inl (fun k => bI (isE (tw k)))))]) := by
  refine Hm.of (by decide) (Nat.le_of_ble_eq_true rfl) ?_
  intro zp ze s zm args below zmeth zc hx hb hr hml hown hin hts hlocks A hA hP hK hD hS ls hl
  have hl : lv_has ls 2 [(0, .ref q), (1, .int (nI p))] := hl
  refine lv_aload_n hx hb dX8_fineAt_0 rfl (lv_at hl 0 rfl) ?_
  refine va_get (D := D) (ci := 4) (v := .ref a3) (C := RX8) (T := TX8) (N := 9) hx hb hts i_X8 hown hK hP 0 rfl rfl 2 (by decide) (hts _ u736) (fun _ h9 => h9) rfl dX8_fineAt_1 ?_
  refine lv_iload_n hx hb dX8_fineAt_4 rfl (lv_at hl 1 rfl) ?_
  refine za_zald hx hb hK hP 3 rfl p (rfl) (by omega) (by decide) dX8_fineAt_5 ?_
  refine zb_eq (tgt := 21) hx hb dX8_fineAt_6 (by decide) (fun h1 => ?_) (fun h1 => ?_)
  · refine lv_aload_n hx hb dX8_fineAt_21 rfl (lv_at hl 0 rfl) ?_
    refine lv_iload_n hx hb dX8_fineAt_22 rfl (lv_at hl 1 rfl) ?_
    refine zh_v (T := T) hx hb hml hown hts k_X8_39 (c_X8_size l D T q a1 a2 a3 a4 a5 yv tw n0 nc ne th p hp) ⟨by decide, by decide⟩ rfl hl.1 [] rfl (Nat.le_of_ble_eq_true rfl) dX8_fineAt_23 ⟨Nat.le_of_ble_eq_true rfl, Nat.le_of_ble_eq_true rfl⟩ hK hP hD hS hA (ci := 4) rfl rfl rfl [0, 1, 2, 3, 4, 5] [] (wr := []) rfl rfl (by decide) (by decide) (by decide) [0, 1, 2, 3, 4, 5] (fun _ => [(q, .inr (4, [.ref a1, .ref a2, .ref a3, .ref a4, .ref a5, .int (nI n0), .int nc, .int (bI ne), .int th])), (a1, .inl (T 0, 8, .inl (fun k => nI (yv k / 4)))), (a2, .inl (T 2, 8, .inl (fun k => bI (isE (yv k))))), (a3, .inl (T 2, 8, .inl (fun k => bI (isB (yv k))))), (a4, .inl (T 0, 60, .inl (fun k => nI (tw k / 4)))), (a5, .inl (T 2, 60, .inl (fun k => bI (isE (tw k)))))]) (by decide) (fun _ => rfl) (fun _ H locs hP hD hS => ?_)
    have hP : va_P D zcl [(q, .inr (4, [.ref a1, .ref a2, .ref a3, .ref a4, .ref a5, .int (nI n0), .int nc, .int (bI ne), .int th])), (a1, .inl (T 0, 8, .inl (fun k => nI (yv k / 4)))), (a2, .inl (T 2, 8, .inl (fun k => bI (isE (yv k))))), (a3, .inl (T 2, 8, .inl (fun k => bI (isB (yv k))))), (a4, .inl (T 0, 60, .inl (fun k => nI (tw k / 4)))), (a5, .inl (T 2, 60, .inl (fun k => bI (isE (tw k)))))] H := hP
    have hD : va_D A [(q, .inr (4, [.ref a1, .ref a2, .ref a3, .ref a4, .ref a5, .int (nI n0), .int nc, .int (bI ne), .int th])), (a1, .inl (T 0, 8, .inl (fun k => nI (yv k / 4)))), (a2, .inl (T 2, 8, .inl (fun k => bI (isE (yv k))))), (a3, .inl (T 2, 8, .inl (fun k => bI (isB (yv k))))), (a4, .inl (T 0, 60, .inl (fun k => nI (tw k / 4)))), (a5, .inl (T 2, 60, .inl (fun k => bI (isE (tw k)))))] := hD
    refine zp_call hx hb hml hown hts k_X8_47 (c_X8_fineOf l (eig (yv p)) (eig20 (hy p))) ⟨by decide, by decide⟩ rfl hl.1 [] rfl (Nat.le_of_ble_eq_true rfl) dX8_fineAt_26 ⟨Nat.le_of_ble_eq_true rfl, Nat.le_of_ble_eq_true rfl⟩ ?_
    exact zh_iret () hx hb hr hlocks dX8_fineAt_29 hP hD hS ((zif_neg (zbf h1) rfl)) (rfl)
  · refine lv_aload_n hx hb dX8_fineAt_9 rfl (lv_at hl 0 rfl) ?_
    refine lv_iload_n hx hb dX8_fineAt_10 rfl (lv_at hl 1 rfl) ?_
    refine zh_v (T := T) hx hb hml hown hts k_X8_39 (c_X8_size l D T q a1 a2 a3 a4 a5 yv tw n0 nc ne th p hp) ⟨by decide, by decide⟩ rfl hl.1 [] rfl (Nat.le_of_ble_eq_true rfl) dX8_fineAt_11 ⟨Nat.le_of_ble_eq_true rfl, Nat.le_of_ble_eq_true rfl⟩ hK hP hD hS hA (ci := 4) rfl rfl rfl [0, 1, 2, 3, 4, 5] [] (wr := []) rfl rfl (by decide) (by decide) (by decide) [0, 1, 2, 3, 4, 5] (fun _ => [(q, .inr (4, [.ref a1, .ref a2, .ref a3, .ref a4, .ref a5, .int (nI n0), .int nc, .int (bI ne), .int th])), (a1, .inl (T 0, 8, .inl (fun k => nI (yv k / 4)))), (a2, .inl (T 2, 8, .inl (fun k => bI (isE (yv k))))), (a3, .inl (T 2, 8, .inl (fun k => bI (isB (yv k))))), (a4, .inl (T 0, 60, .inl (fun k => nI (tw k / 4)))), (a5, .inl (T 2, 60, .inl (fun k => bI (isE (tw k)))))]) (by decide) (fun _ => rfl) (fun _ H locs hP hD hS => ?_)
    have hP : va_P D zcl [(q, .inr (4, [.ref a1, .ref a2, .ref a3, .ref a4, .ref a5, .int (nI n0), .int nc, .int (bI ne), .int th])), (a1, .inl (T 0, 8, .inl (fun k => nI (yv k / 4)))), (a2, .inl (T 2, 8, .inl (fun k => bI (isE (yv k))))), (a3, .inl (T 2, 8, .inl (fun k => bI (isB (yv k))))), (a4, .inl (T 0, 60, .inl (fun k => nI (tw k / 4)))), (a5, .inl (T 2, 60, .inl (fun k => bI (isE (tw k)))))] H := hP
    have hD : va_D A [(q, .inr (4, [.ref a1, .ref a2, .ref a3, .ref a4, .ref a5, .int (nI n0), .int nc, .int (bI ne), .int th])), (a1, .inl (T 0, 8, .inl (fun k => nI (yv k / 4)))), (a2, .inl (T 2, 8, .inl (fun k => bI (isE (yv k))))), (a3, .inl (T 2, 8, .inl (fun k => bI (isB (yv k))))), (a4, .inl (T 0, 60, .inl (fun k => nI (tw k / 4)))), (a5, .inl (T 2, 60, .inl (fun k => bI (isE (tw k)))))] := hD
    refine zp_call hx hb hml hown hts k_X8_47 (c_X8_fineOf l (eig (yv p)) (eig20 (hy p))) ⟨by decide, by decide⟩ rfl hl.1 [] rfl (Nat.le_of_ble_eq_true rfl) dX8_fineAt_14 ⟨Nat.le_of_ble_eq_true rfl, Nat.le_of_ble_eq_true rfl⟩ ?_
    refine lv_ineg hx hb dX8_fineAt_17 ?_
    refine lv_goto (tgt := 29) hx hb dX8_fineAt_18 (by decide) ?_
    exact zh_iret () hx hb hr hlocks dX8_fineAt_29 hP hD hS ((zif_pos h1 rfl)) (rfl)
set_option maxRecDepth 20000 in
theorem c_X8_write (l : Launch) (D : va_G) (T : Nat → ClassId) (q a1 a2 a3 a4 a5 : Nat) (yv tw : Nat → Nat) (n0 : Nat) (nc : Int32) (ne : Bool) (th : Int32) (p : Nat) (hp : p < 8) (cc : Nat) (e0 b0 : Bool) : Hm l yX8_write cX8_write 5 none 0 0 0 D T [.ref q, .int (nI p), .int (nI cc), .int (bI e0), .int (bI b0)] [(q, .inr (4, [.ref a1, .ref a2, .ref a3, .ref a4, .ref a5, .int (nI n0), .int nc, .int (bI ne), .int th])), (a1, .inl (T 0, 8, .inl (fun k => nI (yv k / 4)))), (a2, .inl (T 2, 8, .inl (fun k => bI (isE (yv k))))), (a3, .inl (T 2, 8, .inl (fun k => bI (isB (yv k))))), (a4, .inl (T 0, 60, .inl (fun k => nI (tw k / 4)))), (a5, .inl (T 2, 60, .inl (fun k => bI (isE (tw k)))))] none (fun _ : Unit => [(q, .inr (4, [.ref a1, .ref a2, .ref a3, .ref a4, .ref a5, .int (nI n0), .int nc, .int (bI ne), .int th])), (a1, .inl (T 0, 8, .inl (fun k => nI ((up yv p (mk cc e0 b0)) k / 4)))), (a2, .inl (T 2, 8, .inl (fun k => bI (isE ((up yv p (mk cc e0 b0)) k))))), (a3, .inl (T 2, 8, .inl (fun k => bI (isB ((up yv p (mk cc e0 b0)) k))))), (a4, .inl (T 0, 60, .inl (fun k => nI (tw k / 4)))), (a5, .inl (T 2, 60, .inl (fun k => bI (isE (tw k)))))]) := by
  refine Hm.of (by decide) (Nat.le_of_ble_eq_true rfl) ?_
  intro zp ze s zm args below zmeth zc hx hb hr hml hown hin hts hlocks A hA hP hK hD hS ls hl
  have hl : lv_has ls 5 [(0, .ref q), (1, .int (nI p)), (2, .int (nI cc)), (3, .int (bI e0)), (4, .int (bI b0))] := hl
  refine lv_aload_n hx hb dX8_write_0 rfl (lv_at hl 0 rfl) ?_
  refine va_get (D := D) (ci := 4) (v := .ref a1) (C := RX8) (T := TX8) (N := 9) hx hb hts i_X8 hown hK hP 0 rfl rfl 0 (by decide) (hts _ u734) (fun _ h9 => h9) rfl dX8_write_1 ?_
  refine lv_iload_n hx hb dX8_write_4 rfl (lv_at hl 1 rfl) ?_
  refine lv_iload_n hx hb dX8_write_5 rfl (lv_at hl 2 rfl) ?_
  refine za_iast hx hb hK hP hD hS 1 rfl p (rfl) (by omega) (by decide) (fun k => nI (up yv p (mk cc e0 b0) k / 4)) (up_1 yv p cc e0 b0) dX8_write_6 (fun H locs hP hD hS => ?_)
  have hP : va_P D zcl [(q, .inr (4, [.ref a1, .ref a2, .ref a3, .ref a4, .ref a5, .int (nI n0), .int nc, .int (bI ne), .int th])), (a1, .inl (T 0, 8, .inl (fun k => nI (up yv p (mk cc e0 b0) k / 4)))), (a2, .inl (T 2, 8, .inl (fun k => bI (isE (yv k))))), (a3, .inl (T 2, 8, .inl (fun k => bI (isB (yv k))))), (a4, .inl (T 0, 60, .inl (fun k => nI (tw k / 4)))), (a5, .inl (T 2, 60, .inl (fun k => bI (isE (tw k)))))] H := hP
  have hD : va_D A [(q, .inr (4, [.ref a1, .ref a2, .ref a3, .ref a4, .ref a5, .int (nI n0), .int nc, .int (bI ne), .int th])), (a1, .inl (T 0, 8, .inl (fun k => nI (up yv p (mk cc e0 b0) k / 4)))), (a2, .inl (T 2, 8, .inl (fun k => bI (isE (yv k))))), (a3, .inl (T 2, 8, .inl (fun k => bI (isB (yv k))))), (a4, .inl (T 0, 60, .inl (fun k => nI (tw k / 4)))), (a5, .inl (T 2, 60, .inl (fun k => bI (isE (tw k)))))] := hD
  refine lv_aload_n hx hb dX8_write_7 rfl (lv_at hl 0 rfl) ?_
  refine va_get (D := D) (ci := 4) (v := .ref a2) (C := RX8) (T := TX8) (N := 9) hx hb hts i_X8 hown hK hP 0 rfl rfl 1 (by decide) (hts _ u735) (fun _ h9 => h9) rfl dX8_write_8 ?_
  refine lv_iload_n hx hb dX8_write_11 rfl (lv_at hl 1 rfl) ?_
  refine lv_iload_n hx hb dX8_write_12 rfl (lv_at hl 3 rfl) ?_
  refine za_zast hx hb hK hP hD hS 2 rfl p (rfl) (by omega) (by decide) (fun k => bI (isE (up yv p (mk cc e0 b0) k))) (up_2 yv p cc e0 b0) dX8_write_13 (fun H locs hP hD hS => ?_)
  have hP : va_P D zcl [(q, .inr (4, [.ref a1, .ref a2, .ref a3, .ref a4, .ref a5, .int (nI n0), .int nc, .int (bI ne), .int th])), (a1, .inl (T 0, 8, .inl (fun k => nI (up yv p (mk cc e0 b0) k / 4)))), (a2, .inl (T 2, 8, .inl (fun k => bI (isE (up yv p (mk cc e0 b0) k))))), (a3, .inl (T 2, 8, .inl (fun k => bI (isB (yv k))))), (a4, .inl (T 0, 60, .inl (fun k => nI (tw k / 4)))), (a5, .inl (T 2, 60, .inl (fun k => bI (isE (tw k)))))] H := hP
  have hD : va_D A [(q, .inr (4, [.ref a1, .ref a2, .ref a3, .ref a4, .ref a5, .int (nI n0), .int nc, .int (bI ne), .int th])), (a1, .inl (T 0, 8, .inl (fun k => nI (up yv p (mk cc e0 b0) k / 4)))), (a2, .inl (T 2, 8, .inl (fun k => bI (isE (up yv p (mk cc e0 b0) k))))), (a3, .inl (T 2, 8, .inl (fun k => bI (isB (yv k))))), (a4, .inl (T 0, 60, .inl (fun k => nI (tw k / 4)))), (a5, .inl (T 2, 60, .inl (fun k => bI (isE (tw k)))))] := hD
  refine lv_aload_n hx hb dX8_write_14 rfl (lv_at hl 0 rfl) ?_
  refine va_get (D := D) (ci := 4) (v := .ref a3) (C := RX8) (T := TX8) (N := 9) hx hb hts i_X8 hown hK hP 0 rfl rfl 2 (by decide) (hts _ u736) (fun _ h9 => h9) rfl dX8_write_15 ?_
  refine lv_iload_n hx hb dX8_write_18 rfl (lv_at hl 1 rfl) ?_
  refine lv_iload hx hb dX8_write_19 (lv_at hl 4 rfl) ?_
  refine za_zast hx hb hK hP hD hS 3 rfl p (rfl) (by omega) (by decide) (fun k => bI (isB (up yv p (mk cc e0 b0) k))) (up_3 yv p cc e0 b0) dX8_write_21 (fun H locs hP hD hS => ?_)
  have hP : va_P D zcl [(q, .inr (4, [.ref a1, .ref a2, .ref a3, .ref a4, .ref a5, .int (nI n0), .int nc, .int (bI ne), .int th])), (a1, .inl (T 0, 8, .inl (fun k => nI (up yv p (mk cc e0 b0) k / 4)))), (a2, .inl (T 2, 8, .inl (fun k => bI (isE (up yv p (mk cc e0 b0) k))))), (a3, .inl (T 2, 8, .inl (fun k => bI (isB (up yv p (mk cc e0 b0) k))))), (a4, .inl (T 0, 60, .inl (fun k => nI (tw k / 4)))), (a5, .inl (T 2, 60, .inl (fun k => bI (isE (tw k)))))] H := hP
  have hD : va_D A [(q, .inr (4, [.ref a1, .ref a2, .ref a3, .ref a4, .ref a5, .int (nI n0), .int nc, .int (bI ne), .int th])), (a1, .inl (T 0, 8, .inl (fun k => nI (up yv p (mk cc e0 b0) k / 4)))), (a2, .inl (T 2, 8, .inl (fun k => bI (isE (up yv p (mk cc e0 b0) k))))), (a3, .inl (T 2, 8, .inl (fun k => bI (isB (up yv p (mk cc e0 b0) k))))), (a4, .inl (T 0, 60, .inl (fun k => nI (tw k / 4)))), (a5, .inl (T 2, 60, .inl (fun k => bI (isE (tw k)))))] := hD
  exact zh_vret () hx hb hr hlocks dX8_write_22 hP hD hS (rfl)
