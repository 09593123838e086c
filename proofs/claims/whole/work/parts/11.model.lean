/-! The reference, method by method: what each does to the numbers, what it answers. -/
def up (f : Nat → Nat) (p v : Nat) : Nat → Nat := fun k => if k = p then v else f k
def mk (c : Nat) (e b : Bool) : Nat := 4 * c + (if b = true then 2 else 0) + (if e = true then 1 else 0)
theorem mk_c (c : Nat) (e b : Bool) : mk c e b / 4 = c := by cases e <;> cases b <;> simp [mk] <;> omega
theorem mk_e (c : Nat) (e b : Bool) : isE (mk c e b) = e := by
  unfold isE mk
  cases e <;> cases b <;> simp <;> omega
theorem mk_b (c : Nat) (e b : Bool) : isB (mk c e b) = b := by
  unfold isB mk
  cases e <;> cases b <;> simp <;> omega
theorem mk_lt {c : Nat} (h : c < 65536) (e b : Bool) : mk c e b < 262144 := by unfold mk; split <;> split <;> omega
theorem up_s (f : Nat → Nat) (p v : Nat) : up f p v p = v := if_pos rfl
theorem up_lt {f : Nat → Nat} {p v N : Nat} (h : ∀ k, f k < N) (hv : v < N) : ∀ k, up f p v k < N := fun k => by
  unfold up
  split
  · exact hv
  · exact h k
theorem up_1 (f : Nat → Nat) (p c : Nat) (e b : Bool) (k : Nat) : (if k = p then nI c else nI (f k / 4)) = nI (up f p (mk c e b) k / 4) := by
  unfold up
  split
  · rw [mk_c]
  · rfl
theorem up_2 (f : Nat → Nat) (p c : Nat) (e b : Bool) (k : Nat) : (if k = p then bI e else bI (isE (f k))) = bI (isE (up f p (mk c e b) k)) := by
  unfold up
  split
  · rw [mk_e]
  · rfl
theorem up_3 (f : Nat → Nat) (p c : Nat) (e b : Bool) (k : Nat) : (if k = p then bI b else bI (isB (f k))) = bI (isB (up f p (mk c e b) k)) := by
  unfold up
  split
  · rw [mk_b]
  · rfl
theorem is_ok {p : Nat} (h : p < 8) : m_X8_is (nI p) = true := by
  unfold m_X8_is
  rw [if_neg (nI_pos (by omega)), if_neg (show ¬ (8 : Int32) ≤ nI p from nI_ge h (by decide))]
theorem eig20 {v : Nat} (h : v < 262144) : eig v < 1048576 := Nat.lt_trans (eig_lt h) (by decide)
set_option maxRecDepth 20000 in
theorem c_X8_thrown (l : Launch) (D : va_G) (T : Nat → ClassId) (q a1 a2 a3 a4 a5 : Nat) (yv tw : Nat → Nat) (n0 : Nat) (nc : Int32) (ne : Bool) (th : Int32)  : Hm l yX8_thrown cX8_thrown 1 (some FieldType.int) 0 0 0 D T [.ref q] [(q, .inr (4, [.ref a1, .ref a2, .ref a3, .ref a4, .ref a5, .int (nI n0), .int nc, .int (bI ne), .int th])), (a1, .inl (T 0, 8, .inl (fun k => nI (yv k / 4)))), (a2, .inl (T 2, 8, .inl (fun k => bI (isE (yv k))))), (a3, .inl (T 2, 8, .inl (fun k => bI (isB (yv k))))), (a4, .inl (T 0, 60, .inl (fun k => nI (tw k / 4)))), (a5, .inl (T 2, 60, .inl (fun k => bI (isE (tw k)))))] (some (.int th)) (fun _ : Unit => [(q, .inr (4, [.ref a1, .ref a2, .ref a3, .ref a4, .ref a5, .int (nI n0), .int nc, .int (bI ne), .int th])), (a1, .inl (T 0, 8, .inl (fun k => nI (yv k / 4)))), (a2, .inl (T 2, 8, .inl (fun k => bI (isE (yv k))))), (a3, .inl (T 2, 8, .inl (fun k => bI (isB (yv k))))), (a4, .inl (T 0, 60, .inl (fun k => nI (tw k / 4)))), (a5, .inl (T 2, 60, .inl (fun k => bI (isE (tw k)))))]) := by
  refine Hm.of (by decide) (Nat.le_of_ble_eq_true rfl) ?_
  intro zp ze s zm args below zmeth zc hx hb hr hml hown hin hts hlocks A hA hP hK hD hS ls hl
  have hl : lv_has ls 1 [(0, .ref q)] := hl
  refine lv_aload_n hx hb dX8_thrown_0 rfl (lv_at hl 0 rfl) ?_
  refine va_get (D := D) (ci := 4) (v := .int th) (C := RX8) (T := TX8) (N := 9) hx hb hts i_X8 hown hK hP 0 rfl rfl 8 (by decide) (hts _ u742) (fun _ h9 => h9) rfl dX8_thrown_1 ?_
  exact zh_iret () hx hb hr hlocks dX8_thrown_4 hP hD hS (rfl) (rfl)
set_option maxRecDepth 20000 in
theorem c_X8_isPlace_ok (l : Launch) (D : va_G) (T : Nat → ClassId) (q a1 a2 a3 a4 a5 : Nat) (yv tw : Nat → Nat) (n0 : Nat) (nc : Int32) (ne : Bool) (th : Int32) (p : Nat) (hp : p < 8) : Hm l yX8_isPlace cX8_isPlace 2 (some FieldType.boolean) 1 0 0 D T [.ref q, .int (nI p)] [(q, .inr (4, [.ref a1, .ref a2, .ref a3, .ref a4, .ref a5, .int (nI n0), .int nc, .int (bI ne), .int th])), (a1, .inl (T 0, 8, .inl (fun k => nI (yv k / 4)))), (a2, .inl (T 2, 8, .inl (fun k => bI (isE (yv k))))), (a3, .inl (T 2, 8, .inl (fun k => bI (isB (yv k))))), (a4, .inl (T 0, 60, .inl (fun k => nI (tw k / 4)))), (a5, .inl (T 2, 60, .inl (fun k => bI (isE (tw k)))))] (some (.int (bI true))) (fun _ : Unit => [(q, .inr (4, [.ref a1, .ref a2, .ref a3, .ref a4, .ref a5, .int (nI n0), .int nc, .int (bI ne), .int 0])), (a1, .inl (T 0, 8, .inl (fun k => nI (yv k / 4)))), (a2, .inl (T 2, 8, .inl (fun k => bI (isE (yv k))))), (a3, .inl (T 2, 8, .inl (fun k => bI (isB (yv k))))), (a4, .inl (T 0, 60, .inl (fun k => nI (tw k / 4)))), (a5, .inl (T 2, 60, .inl (fun k => bI (isE (tw k)))))]) := by
  refine Hm.of (by decide) (Nat.le_of_ble_eq_true rfl) ?_
  intro zp ze s zm args below zmeth zc hx hb hr hml hown hin hts hlocks A hA hP hK hD hS ls hl
  have hl : lv_has ls 2 [(0, .ref q), (1, .int (nI p))] := hl
  refine lv_aload_n hx hb dX8_isPlace_0 rfl (lv_at hl 0 rfl) ?_
  refine lv_iload_n hx hb dX8_isPlace_1 rfl (lv_at hl 1 rfl) ?_
  refine zp_call hx hb hml hown hts k_X8_30 (c_X8_is l (nI p)) ⟨by decide, by decide⟩ rfl hl.1 [.ref q] rfl (Nat.le_of_ble_eq_true rfl) dX8_isPlace_2 ⟨by decide, by decide⟩ ?_
  refine zb_eq (tgt := 12) hx hb dX8_isPlace_5 (by decide) (fun h1 => ?_) (fun h1 => ?_)
  · exact absurd ((is_ok hp).symm.trans h1) (by decide)
  · refine lv_iconst (v := 0) hx hb dX8_isPlace_8 (by decide) ?_
    refine lv_goto (tgt := 13) hx hb dX8_isPlace_9 (by decide) ?_
    refine va_put (D := D) (ci := 4) (v := .int 0) (ty := .int) (C := RX8) (T := TX8) (N := 9) hx hb hts i_X8 tyX8 tyX8_ok nmX8 hown hK hP hD hS 0 rfl rfl 8 (by decide) (hts _ u742) (fun _ h9 => h9) rfl (by decide +kernel) rfl rfl (Nat.le_of_ble_eq_true rfl) dX8_isPlace_13 (fun H locs hP hD hS => ?_)
    have hP : va_P D zcl [(q, .inr (4, [.ref a1, .ref a2, .ref a3, .ref a4, .ref a5, .int (nI n0), .int nc, .int (bI ne), .int 0])), (a1, .inl (T 0, 8, .inl (fun k => nI (yv k / 4)))), (a2, .inl (T 2, 8, .inl (fun k => bI (isE (yv k))))), (a3, .inl (T 2, 8, .inl (fun k => bI (isB (yv k))))), (a4, .inl (T 0, 60, .inl (fun k => nI (tw k / 4)))), (a5, .inl (T 2, 60, .inl (fun k => bI (isE (tw k)))))] H := hP
    have hD : va_D A [(q, .inr (4, [.ref a1, .ref a2, .ref a3, .ref a4, .ref a5, .int (nI n0), .int nc, .int (bI ne), .int 0])), (a1, .inl (T 0, 8, .inl (fun k => nI (yv k / 4)))), (a2, .inl (T 2, 8, .inl (fun k => bI (isE (yv k))))), (a3, .inl (T 2, 8, .inl (fun k => bI (isB (yv k))))), (a4, .inl (T 0, 60, .inl (fun k => nI (tw k / 4)))), (a5, .inl (T 2, 60, .inl (fun k => bI (isE (tw k)))))] := hD
    refine lv_aload_n hx hb dX8_isPlace_16 rfl (lv_at hl 0 rfl) ?_
    refine va_get (D := D) (ci := 4) (v := .int 0) (C := RX8) (T := TX8) (N := 9) hx hb hts i_X8 hown hK hP 0 rfl rfl 8 (by decide) (hts _ u742) (fun _ h9 => h9) rfl dX8_isPlace_17 ?_
    refine lv_if_ne (tgt := 27) hx hb dX8_isPlace_20 (by decide) (fun h2 => ?_) (fun h2 => ?_)
    · exact absurd h2 (by decide)
    · refine lv_iconst (v := 1) hx hb dX8_isPlace_23 (by decide) ?_
      refine lv_goto (tgt := 28) hx hb dX8_isPlace_24 (by decide) ?_
      exact zh_zret () hx hb hr hlocks dX8_isPlace_28 hP hD hS (rfl) (rfl)
set_option maxRecDepth 20000 in
theorem c_X8_isPlace_no (l : Launch) (D : va_G) (T : Nat → ClassId) (q a1 a2 a3 a4 a5 : Nat) (yv tw : Nat → Nat) (n0 : Nat) (nc : Int32) (ne : Bool) (th : Int32) (x : Int32) (hx0 : m_X8_is x = false) : Hm l yX8_isPlace cX8_isPlace 2 (some FieldType.boolean) 1 0 0 D T [.ref q, .int x] [(q, .inr (4, [.ref a1, .ref a2, .ref a3, .ref a4, .ref a5, .int (nI n0), .int nc, .int (bI ne), .int th])), (a1, .inl (T 0, 8, .inl (fun k => nI (yv k / 4)))), (a2, .inl (T 2, 8, .inl (fun k => bI (isE (yv k))))), (a3, .inl (T 2, 8, .inl (fun k => bI (isB (yv k))))), (a4, .inl (T 0, 60, .inl (fun k => nI (tw k / 4)))), (a5, .inl (T 2, 60, .inl (fun k => bI (isE (tw k)))))] (some (.int (bI false))) (fun _ : Unit => [(q, .inr (4, [.ref a1, .ref a2, .ref a3, .ref a4, .ref a5, .int (nI n0), .int nc, .int (bI ne), .int 1])), (a1, .inl (T 0, 8, .inl (fun k => nI (yv k / 4)))), (a2, .inl (T 2, 8, .inl (fun k => bI (isE (yv k))))), (a3, .inl (T 2, 8, .inl (fun k => bI (isB (yv k))))), (a4, .inl (T 0, 60, .inl (fun k => nI (tw k / 4)))), (a5, .inl (T 2, 60, .inl (fun k => bI (isE (tw k)))))]) := by
  refine Hm.of (by decide) (Nat.le_of_ble_eq_true rfl) ?_
  intro zp ze s zm args below zmeth zc hx hb hr hml hown hin hts hlocks A hA hP hK hD hS ls hl
  have hl : lv_has ls 2 [(0, .ref q), (1, .int x)] := hl
  refine lv_aload_n hx hb dX8_isPlace_0 rfl (lv_at hl 0 rfl) ?_
  refine lv_iload_n hx hb dX8_isPlace_1 rfl (lv_at hl 1 rfl) ?_
  refine zp_call hx hb hml hown hts k_X8_30 (c_X8_is l x) ⟨by decide, by decide⟩ rfl hl.1 [.ref q] rfl (Nat.le_of_ble_eq_true rfl) dX8_isPlace_2 ⟨by decide, by decide⟩ ?_
  refine zb_eq (tgt := 12) hx hb dX8_isPlace_5 (by decide) (fun h1 => ?_) (fun h1 => ?_)
  · refine lv_iconst (v := 1) hx hb dX8_isPlace_12 (by decide) ?_
    refine va_put (D := D) (ci := 4) (v := .int 1) (ty := .int) (C := RX8) (T := TX8) (N := 9) hx hb hts i_X8 tyX8 tyX8_ok nmX8 hown hK hP hD hS 0 rfl rfl 8 (by decide) (hts _ u742) (fun _ h9 => h9) rfl (by decide +kernel) rfl rfl (Nat.le_of_ble_eq_true rfl) dX8_isPlace_13 (fun H locs hP hD hS => ?_)
    have hP : va_P D zcl [(q, .inr (4, [.ref a1, .ref a2, .ref a3, .ref a4, .ref a5, .int (nI n0), .int nc, .int (bI ne), .int 1])), (a1, .inl (T 0, 8, .inl (fun k => nI (yv k / 4)))), (a2, .inl (T 2, 8, .inl (fun k => bI (isE (yv k))))), (a3, .inl (T 2, 8, .inl (fun k => bI (isB (yv k))))), (a4, .inl (T 0, 60, .inl (fun k => nI (tw k / 4)))), (a5, .inl (T 2, 60, .inl (fun k => bI (isE (tw k)))))] H := hP
    have hD : va_D A [(q, .inr (4, [.ref a1, .ref a2, .ref a3, .ref a4, .ref a5, .int (nI n0), .int nc, .int (bI ne), .int 1])), (a1, .inl (T 0, 8, .inl (fun k => nI (yv k / 4)))), (a2, .inl (T 2, 8, .inl (fun k => bI (isE (yv k))))), (a3, .inl (T 2, 8, .inl (fun k => bI (isB (yv k))))), (a4, .inl (T 0, 60, .inl (fun k => nI (tw k / 4)))), (a5, .inl (T 2, 60, .inl (fun k => bI (isE (tw k)))))] := hD
    refine lv_aload_n hx hb dX8_isPlace_16 rfl (lv_at hl 0 rfl) ?_
    refine va_get (D := D) (ci := 4) (v := .int 1) (C := RX8) (T := TX8) (N := 9) hx hb hts i_X8 hown hK hP 0 rfl rfl 8 (by decide) (hts _ u742) (fun _ h9 => h9) rfl dX8_isPlace_17 ?_
    refine lv_if_ne (tgt := 27) hx hb dX8_isPlace_20 (by decide) (fun h2 => ?_) (fun h2 => ?_)
    · refine lv_iconst (v := 0) hx hb dX8_isPlace_27 (by decide) ?_
      exact zh_zret () hx hb hr hlocks dX8_isPlace_28 hP hD hS (rfl) (rfl)
    · exact absurd h2 (by decide)
  · exact absurd (hx0.symm.trans h1) (by decide)
set_option maxRecDepth 20000 in
theorem c_X8_arePlaces_ok (l : Launch) (D : va_G) (T : Nat → ClassId) (q a1 a2 a3 a4 a5 : Nat) (yv tw : Nat → Nat) (n0 : Nat) (nc : Int32) (ne : Bool) (th : Int32) (p : Nat) (hp : p < 8) (p2 : Nat) (hp2 : p2 < 8) : Hm l yX8_arePlaces cX8_arePlaces 3 (some FieldType.boolean) 1 0 0 D T [.ref q, .int (nI p), .int (nI p2)] [(q, .inr (4, [.ref a1, .ref a2, .ref a3, .ref a4, .ref a5, .int (nI n0), .int nc, .int (bI ne), .int th])), (a1, .inl (T 0, 8, .inl (fun k => nI (yv k / 4)))), (a2, .inl (T 2, 8, .inl (fun k => bI (isE (yv k))))), (a3, .inl (T 2, 8, .inl (fun k => bI (isB (yv k))))), (a4, .inl (T 0, 60, .inl (fun k => nI (tw k / 4)))), (a5, .inl (T 2, 60, .inl (fun k => bI (isE (tw k)))))] (some (.int (bI true))) (fun _ : Unit => [(q, .inr (4, [.ref a1, .ref a2, .ref a3, .ref a4, .ref a5, .int (nI n0), .int nc, .int (bI ne), .int 0])), (a1, .inl (T 0, 8, .inl (fun k => nI (yv k / 4)))), (a2, .inl (T 2, 8, .inl (fun k => bI (isE (yv k))))), (a3, .inl (T 2, 8, .inl (fun k => bI (isB (yv k))))), (a4, .inl (T 0, 60, .inl (fun k => nI (tw k / 4)))), (a5, .inl (T 2, 60, .inl (fun k => bI (isE (tw k)))))]) := by
  refine Hm.of (by decide) (Nat.le_of_ble_eq_true rfl) ?_
  intro zp ze s zm args below zmeth zc hx hb hr hml hown hin hts hlocks A hA hP hK hD hS ls hl
  have hl : lv_has ls 3 [(0, .ref q), (1, .int (nI p)), (2, .int (nI p2))] := hl
  refine lv_aload_n hx hb dX8_arePlaces_0 rfl (lv_at hl 0 rfl) ?_
  refine lv_iload_n hx hb dX8_arePlaces_1 rfl (lv_at hl 1 rfl) ?_
  refine zp_call hx hb hml hown hts k_X8_30 (c_X8_is l (nI p)) ⟨by decide, by decide⟩ rfl hl.1 [.ref q] rfl (Nat.le_of_ble_eq_true rfl) dX8_arePlaces_2 ⟨by decide, by decide⟩ ?_
  refine zb_eq (tgt := 19) hx hb dX8_arePlaces_5 (by decide) (fun h1 => ?_) (fun h1 => ?_)
  · exact absurd ((is_ok hp).symm.trans h1) (by decide)
  · refine lv_iload_n hx hb dX8_arePlaces_8 rfl (lv_at hl 2 rfl) ?_
    refine zp_call hx hb hml hown hts k_X8_30 (c_X8_is l (nI p2)) ⟨by decide, by decide⟩ rfl hl.1 [.ref q] rfl (Nat.le_of_ble_eq_true rfl) dX8_arePlaces_9 ⟨by decide, by decide⟩ ?_
    refine zb_eq (tgt := 19) hx hb dX8_arePlaces_12 (by decide) (fun h2 => ?_) (fun h2 => ?_)
    · exact absurd ((is_ok hp2).symm.trans h2) (by decide)
    · refine lv_iconst (v := 0) hx hb dX8_arePlaces_15 (by decide) ?_
      refine lv_goto (tgt := 20) hx hb dX8_arePlaces_16 (by decide) ?_
      refine va_put (D := D) (ci := 4) (v := .int 0) (ty := .int) (C := RX8) (T := TX8) (N := 9) hx hb hts i_X8 tyX8 tyX8_ok nmX8 hown hK hP hD hS 0 rfl rfl 8 (by decide) (hts _ u742) (fun _ h9 => h9) rfl (by decide +kernel) rfl rfl (Nat.le_of_ble_eq_true rfl) dX8_arePlaces_20 (fun H locs hP hD hS => ?_)
      have hP : va_P D zcl [(q, .inr (4, [.ref a1, .ref a2, .ref a3, .ref a4, .ref a5, .int (nI n0), .int nc, .int (bI ne), .int 0])), (a1, .inl (T 0, 8, .inl (fun k => nI (yv k / 4)))), (a2, .inl (T 2, 8, .inl (fun k => bI (isE (yv k))))), (a3, .inl (T 2, 8, .inl (fun k => bI (isB (yv k))))), (a4, .inl (T 0, 60, .inl (fun k => nI (tw k / 4)))), (a5, .inl (T 2, 60, .inl (fun k => bI (isE (tw k)))))] H := hP
      have hD : va_D A [(q, .inr (4, [.ref a1, .ref a2, .ref a3, .ref a4, .ref a5, .int (nI n0), .int nc, .int (bI ne), .int 0])), (a1, .inl (T 0, 8, .inl (fun k => nI (yv k / 4)))), (a2, .inl (T 2, 8, .inl (fun k => bI (isE (yv k))))), (a3, .inl (T 2, 8, .inl (fun k => bI (isB (yv k))))), (a4, .inl (T 0, 60, .inl (fun k => nI (tw k / 4)))), (a5, .inl (T 2, 60, .inl (fun k => bI (isE (tw k)))))] := hD
      refine lv_aload_n hx hb dX8_arePlaces_23 rfl (lv_at hl 0 rfl) ?_
      refine va_get (D := D) (ci := 4) (v := .int 0) (C := RX8) (T := TX8) (N := 9) hx hb hts i_X8 hown hK hP 0 rfl rfl 8 (by decide) (hts _ u742) (fun _ h9 => h9) rfl dX8_arePlaces_24 ?_
      refine lv_if_ne (tgt := 34) hx hb dX8_arePlaces_27 (by decide) (fun h3 => ?_) (fun h3 => ?_)
      · exact absurd h3 (by decide)
      · refine lv_iconst (v := 1) hx hb dX8_arePlaces_30 (by decide) ?_
        refine lv_goto (tgt := 35) hx hb dX8_arePlaces_31 (by decide) ?_
        exact zh_zret () hx hb hr hlocks dX8_arePlaces_35 hP hD hS (rfl) (rfl)
set_option maxRecDepth 20000 in
theorem c_X8_arePlaces_no (l : Launch) (D : va_G) (T : Nat → ClassId) (q a1 a2 a3 a4 a5 : Nat) (yv tw : Nat → Nat) (n0 : Nat) (nc : Int32) (ne : Bool) (th : Int32) (x y : Int32) (hx0 : (m_X8_is x && m_X8_is y) = false) : Hm l yX8_arePlaces cX8_arePlaces 3 (some FieldType.boolean) 1 0 0 D T [.ref q, .int x, .int y] [(q, .inr (4, [.ref a1, .ref a2, .ref a3, .ref a4, .ref a5, .int (nI n0), .int nc, .int (bI ne), .int th])), (a1, .inl (T 0, 8, .inl (fun k => nI (yv k / 4)))), (a2, .inl (T 2, 8, .inl (fun k => bI (isE (yv k))))), (a3, .inl (T 2, 8, .inl (fun k => bI (isB (yv k))))), (a4, .inl (T 0, 60, .inl (fun k => nI (tw k / 4)))), (a5, .inl (T 2, 60, .inl (fun k => bI (isE (tw k)))))] (some (.int (bI false))) (fun _ : Unit => [(q, .inr (4, [.ref a1, .ref a2, .ref a3, .ref a4, .ref a5, .int (nI n0), .int nc, .int (bI ne), .int 1])), (a1, .inl (T 0, 8, .inl (fun k => nI (yv k / 4)))), (a2, .inl (T 2, 8, .inl (fun k => bI (isE (yv k))))), (a3, .inl (T 2, 8, .inl (fun k => bI (isB (yv k))))), (a4, .inl (T 0, 60, .inl (fun k => nI (tw k / 4)))), (a5, .inl (T 2, 60, .inl (fun k => bI (isE (tw k)))))]) := by
  refine Hm.of (by decide) (Nat.le_of_ble_eq_true rfl) ?_
  intro zp ze s zm args below zmeth zc hx hb hr hml hown hin hts hlocks A hA hP hK hD hS ls hl
  have hl : lv_has ls 3 [(0, .ref q), (1, .int x), (2, .int y)] := hl
  refine lv_aload_n hx hb dX8_arePlaces_0 rfl (lv_at hl 0 rfl) ?_
  refine lv_iload_n hx hb dX8_arePlaces_1 rfl (lv_at hl 1 rfl) ?_
  refine zp_call hx hb hml hown hts k_X8_30 (c_X8_is l x) ⟨by decide, by decide⟩ rfl hl.1 [.ref q] rfl (Nat.le_of_ble_eq_true rfl) dX8_arePlaces_2 ⟨by decide, by decide⟩ ?_
  refine zb_eq (tgt := 19) hx hb dX8_arePlaces_5 (by decide) (fun h1 => ?_) (fun h1 => ?_)
  · refine lv_iconst (v := 1) hx hb dX8_arePlaces_19 (by decide) ?_
    refine va_put (D := D) (ci := 4) (v := .int 1) (ty := .int) (C := RX8) (T := TX8) (N := 9) hx hb hts i_X8 tyX8 tyX8_ok nmX8 hown hK hP hD hS 0 rfl rfl 8 (by decide) (hts _ u742) (fun _ h9 => h9) rfl (by decide +kernel) rfl rfl (Nat.le_of_ble_eq_true rfl) dX8_arePlaces_20 (fun H locs hP hD hS => ?_)
    have hP : va_P D zcl [(q, .inr (4, [.ref a1, .ref a2, .ref a3, .ref a4, .ref a5, .int (nI n0), .int nc, .int (bI ne), .int 1])), (a1, .inl (T 0, 8, .inl (fun k => nI (yv k / 4)))), (a2, .inl (T 2, 8, .inl (fun k => bI (isE (yv k))))), (a3, .inl (T 2, 8, .inl (fun k => bI (isB (yv k))))), (a4, .inl (T 0, 60, .inl (fun k => nI (tw k / 4)))), (a5, .inl (T 2, 60, .inl (fun k => bI (isE (tw k)))))] H := hP
    have hD : va_D A [(q, .inr (4, [.ref a1, .ref a2, .ref a3, .ref a4, .ref a5, .int (nI n0), .int nc, .int (bI ne), .int 1])), (a1, .inl (T 0, 8, .inl (fun k => nI (yv k / 4)))), (a2, .inl (T 2, 8, .inl (fun k => bI (isE (yv k))))), (a3, .inl (T 2, 8, .inl (fun k => bI (isB (yv k))))), (a4, .inl (T 0, 60, .inl (fun k => nI (tw k / 4)))), (a5, .inl (T 2, 60, .inl (fun k => bI (isE (tw k)))))] := hD
    refine lv_aload_n hx hb dX8_arePlaces_23 rfl (lv_at hl 0 rfl) ?_
    refine va_get (D := D) (ci := 4) (v := .int 1) (C := RX8) (T := TX8) (N := 9) hx hb hts i_X8 hown hK hP 0 rfl rfl 8 (by decide) (hts _ u742) (fun _ h9 => h9) rfl dX8_arePlaces_24 ?_
    refine lv_if_ne (tgt := 34) hx hb dX8_arePlaces_27 (by decide) (fun h2 => ?_) (fun h2 => ?_)
    · refine lv_iconst (v := 0) hx hb dX8_arePlaces_34 (by decide) ?_
      exact zh_zret () hx hb hr hlocks dX8_arePlaces_35 hP hD hS (rfl) (rfl)
    · exact absurd h2 (by decide)
  · refine lv_iload_n hx hb dX8_arePlaces_8 rfl (lv_at hl 2 rfl) ?_
    refine zp_call hx hb hml hown hts k_X8_30 (c_X8_is l y) ⟨by decide, by decide⟩ rfl hl.1 [.ref q] rfl (Nat.le_of_ble_eq_true rfl) dX8_arePlaces_9 ⟨by decide, by decide⟩ ?_
    refine zb_eq (tgt := 19) hx hb dX8_arePlaces_12 (by decide) (fun h3 => ?_) (fun h3 => ?_)
    · refine lv_iconst (v := 1) hx hb dX8_arePlaces_19 (by decide) ?_
      refine va_put (D := D) (ci := 4) (v := .int 1) (ty := .int) (C := RX8) (T := TX8) (N := 9) hx hb hts i_X8 tyX8 tyX8_ok nmX8 hown hK hP hD hS 0 rfl rfl 8 (by decide) (hts _ u742) (fun _ h9 => h9) rfl (by decide +kernel) rfl rfl (Nat.le_of_ble_eq_true rfl) dX8_arePlaces_20 (fun H locs hP hD hS => ?_)
      have hP : va_P D zcl [(q, .inr (4, [.ref a1, .ref a2, .ref a3, .ref a4, .ref a5, .int (nI n0), .int nc, .int (bI ne), .int 1])), (a1, .inl (T 0, 8, .inl (fun k => nI (yv k / 4)))), (a2, .inl (T 2, 8, .inl (fun k => bI (isE (yv k))))), (a3, .inl (T 2, 8, .inl (fun k => bI (isB (yv k))))), (a4, .inl (T 0, 60, .inl (fun k => nI (tw k / 4)))), (a5, .inl (T 2, 60, .inl (fun k => bI (isE (tw k)))))] H := hP
      have hD : va_D A [(q, .inr (4, [.ref a1, .ref a2, .ref a3, .ref a4, .ref a5, .int (nI n0), .int nc, .int (bI ne), .int 1])), (a1, .inl (T 0, 8, .inl (fun k => nI (yv k / 4)))), (a2, .inl (T 2, 8, .inl (fun k => bI (isE (yv k))))), (a3, .inl (T 2, 8, .inl (fun k => bI (isB (yv k))))), (a4, .inl (T 0, 60, .inl (fun k => nI (tw k / 4)))), (a5, .inl (T 2, 60, .inl (fun k => bI (isE (tw k)))))] := hD
      refine lv_aload_n hx hb dX8_arePlaces_23 rfl (lv_at hl 0 rfl) ?_
      refine va_get (D := D) (ci := 4) (v := .int 1) (C := RX8) (T := TX8) (N := 9) hx hb hts i_X8 hown hK hP 0 rfl rfl 8 (by decide) (hts _ u742) (fun _ h9 => h9) rfl dX8_arePlaces_24 ?_
      refine lv_if_ne (tgt := 34) hx hb dX8_arePlaces_27 (by decide) (fun h4 => ?_) (fun h4 => ?_)
      · refine lv_iconst (v := 0) hx hb dX8_arePlaces_34 (by decide) ?_
        exact zh_zret () hx hb hr hlocks dX8_arePlaces_35 hP hD hS (rfl) (rfl)
      · exact absurd h4 (by decide)
    · exact absurd ((Bool.and_eq_true _ _).mpr ⟨h1, h3⟩) (by rw [hx0]; decide)
set_option maxRecDepth 20000 in
theorem c_X8_size (l : Launch) (D : va_G) (T : Nat → ClassId) (q a1 a2 a3 a4 a5 : Nat) (yv tw : Nat → Nat) (n0 : Nat) (nc : Int32) (ne : Bool) (th : Int32) (p : Nat) (hp : p < 8) : Hm l yX8_size cX8_size 2 (some FieldType.int) 1 0 0 D T [.ref q, .int (nI p)] [(q, .inr (4, [.ref a1, .ref a2, .ref a3, .ref a4, .ref a5, .int (nI n0), .int nc, .int (bI ne), .int th])), (a1, .inl (T 0, 8, .inl (fun k => nI (yv k / 4)))), (a2, .inl (T 2, 8, .inl (fun k => bI (isE (yv k))))), (a3, .inl (T 2, 8, .inl (fun k => bI (isB (yv k))))), (a4, .inl (T 0, 60, .inl (fun k => nI (tw k / 4)))), (a5, .inl (T 2, 60, .inl (fun k => bI (isE (tw k)))))] (some (.int (nI (eig (yv p))))) (fun _ : Unit => [(q, .inr (4, [.ref a1, .ref a2, .ref a3, .ref a4, .ref a5, .int (nI n0), .int nc, .int (bI ne), .int th])), (a1, .inl (T 0, 8, .inl (fun k => nI (yv k / 4)))), (a2, .inl (T 2, 8, .inl (fun k => bI (isE (yv k))))), (a3, .inl (T 2, 8, .inl (fun k => bI (isB (yv k))))), (a4, .inl (T 0, 60, .inl (fun k => nI (tw k / 4)))), (a5, .inl (T 2, 60, .inl (fun k => bI (isE (tw k)))))]) := by
  refine Hm.of (by decide) (Nat.le_of_ble_eq_true rfl) ?_
  intro zp ze s zm args below zmeth zc hx hb hr hml hown hin hts hlocks A hA hP hK hD hS ls hl
  have hl : lv_has ls 2 [(0, .ref q), (1, .int (nI p))] := hl
  refine lv_aload_n hx hb dX8_size_0 rfl (lv_at hl 0 rfl) ?_
  refine va_get (D := D) (ci := 4) (v := .ref a1) (C := RX8) (T := TX8) (N := 9) hx hb hts i_X8 hown hK hP 0 rfl rfl 0 (by decide) (hts _ u734) (fun _ h9 => h9) rfl dX8_size_1 ?_
  refine lv_iload_n hx hb dX8_size_4 rfl (lv_at hl 1 rfl) ?_
  refine za_iald hx hb hK hP 1 rfl p (rfl) (by omega) (by decide) dX8_size_5 ?_
  refine lv_aload_n hx hb dX8_size_6 rfl (lv_at hl 0 rfl) ?_
  refine va_get (D := D) (ci := 4) (v := .ref a2) (C := RX8) (T := TX8) (N := 9) hx hb hts i_X8 hown hK hP 0 rfl rfl 1 (by decide) (hts _ u735) (fun _ h9 => h9) rfl dX8_size_7 ?_
  refine lv_iload_n hx hb dX8_size_10 rfl (lv_at hl 1 rfl) ?_
  refine za_zald hx hb hK hP 2 rfl p (rfl) (by omega) (by decide) dX8_size_11 ?_
  refine zp_call hx hb hml hown hts k_X8_35 (c_X8_eighthsOf l (nI (yv p / 4)) (isE (yv p))) ⟨by decide, by decide⟩ rfl hl.1 [] rfl (Nat.le_of_ble_eq_true rfl) dX8_size_12 ⟨Nat.le_of_ble_eq_true rfl, Nat.le_of_ble_eq_true rfl⟩ ?_
  refine zf_i (x' := nI (eig (yv p))) (e8_c) ?_
  exact zh_iret () hx hb hr hlocks dX8_size_15 hP hD hS (rfl) (rfl)
set_option maxRecDepth 20000 in
theorem c_X8_signed (l : Launch) (D : va_G) (T : Nat → ClassId) (q a1 a2 a3 a4 a5 : Nat) (yv tw : Nat → Nat) (n0 : Nat) (nc : Int32) (ne : Bool) (th : Int32) (p : Nat) (hp : p < 8) : Hm l yX8_signed cX8_signed 2 (some FieldType.int) 2 0 0 D T [.ref q, .int (nI p)] [(q, .inr (4, [.ref a1, .ref a2, .ref a3, .ref a4, .ref a5, .int (nI n0), .int nc, .int (bI ne), .int th])), (a1, .inl (T 0, 8, .inl (fun k => nI (yv k / 4)))), (a2, .inl (T 2, 8, .inl (fun k => bI (isE (yv k))))), (a3, .inl (T 2, 8, .inl (fun k => bI (isB (yv k))))), (a4, .inl (T 0, 60, .inl (fun k => nI (tw k / 4)))), (a5, .inl (T 2, 60, .inl (fun k => bI (isE (tw k)))))] (some (.int (sgI (yv p)))) (fun _ : Unit => [(q, .inr (4, [.ref a1, .ref a2, .ref a3, .ref a4, .ref a5, .int (nI n0), .int nc, .int (bI ne), .int th])), (a1, .inl (T 0, 8, .inl (fun k => nI (yv k / 4)))), (a2, .inl (T 2, 8, .inl (fun k => bI (isE (yv k))))), (a3, .inl (T 2, 8, .inl (fun k => bI (isB (yv k))))), (a4, .inl (T 0, 60, .inl (fun k => nI (tw k / 4)))), (a5, .inl (T 2, 60, .inl (fun k => bI (isE (tw k)))))]) := by
  refine Hm.of (by decide) (Nat.le_of_ble_eq_true rfl) ?_
  intro zp ze s zm args below zmeth zc hx hb hr hml hown hin hts hlocks A hA hP hK hD hS ls hl
  have hl : lv_has ls 2 [(0, .ref q), (1, .int (nI p))] := hl
  refine lv_aload_n hx hb dX8_signed_0 rfl (lv_at hl 0 rfl) ?_
  refine va_get (D := D) (ci := 4) (v := .ref a3) (C := RX8) (T := TX8) (N := 9) hx hb hts i_X8 hown hK hP 0 rfl rfl 2 (by decide) (hts _ u736) (fun _ h9 => h9) rfl dX8_signed_1 ?_
  refine lv_iload_n hx hb dX8_signed_4 rfl (lv_at hl 1 rfl) ?_
  refine za_zald hx hb hK hP 3 rfl p (rfl) (by omega) (by decide) dX8_signed_5 ?_
  refine zb_eq (tgt := 18) hx hb dX8_signed_6 (by decide) (fun h1 => ?_) (fun h1 => ?_)
  · refine lv_aload_n hx hb dX8_signed_18 rfl (lv_at hl 0 rfl) ?_
    refine lv_iload_n hx hb dX8_signed_19 rfl (lv_at hl 1 rfl) ?_
    refine zh_v (T := T) hx hb hml hown hts k_X8_39 (c_X8_size l D T q a1 a2 a3 a4 a5 yv tw n0 nc ne th p hp) ⟨by decide, by decide⟩ rfl hl.1 [] rfl (Nat.le_of_ble_eq_true rfl) dX8_signed_20 ⟨Nat.le_of_ble_eq_true rfl, Nat.le_of_ble_eq_true rfl⟩ hK hP hD hS hA (ci := 4) rfl rfl rfl [0, 1, 2, 3, 4, 5] [] (wr := []) rfl rfl (by decide) (by decide) (by decide) [0, 1, 2, 3, 4, 5] (fun _ => [(q, .inr (4, [.ref a1, .ref a2, .ref a3, .ref a4, .ref a5, .int (nI n0), .int nc, .int (bI ne), .int th])), (a1, .inl (T 0, 8, .inl (fun k => nI (yv k / 4)))), (a2, .inl (T 2, 8, .inl (fun k => bI (isE (yv k))))), (a3, .inl (T 2, 8, .inl (fun k => bI (isB (yv k))))), (a4, .inl (T 0, 60, .inl (fun k => nI (tw k / 4)))), (a5, .inl (T 2, 60, .inl (fun k => bI (isE (tw k)))))]) (by decide) (fun _ => rfl) (fun _ H locs hP hD hS => ?_)
    have hP : va_P D zcl [(q, .inr (4, [.ref a1, .ref a2, .ref a3, .ref a4, .ref a5, .int (nI n0), .int nc, .int (bI ne), .int th])), (a1, .inl (T 0, 8, .inl (fun k => nI (yv k / 4)))), (a2, .inl (T 2, 8, .inl (fun k => bI (isE (yv k))))), (a3, .inl (T 2, 8, .inl (fun k => bI (isB (yv k))))), (a4, .inl (T 0, 60, .inl (fun k => nI (tw k / 4)))), (a5, .inl (T 2, 60, .inl (fun k => bI (isE (tw k)))))] H := hP
    have hD : va_D A [(q, .inr (4, [.ref a1, .ref a2, .ref a3, .ref a4, .ref a5, .int (nI n0), .int nc, .int (bI ne), .int th])), (a1, .inl (T 0, 8, .inl (fun k => nI (yv k / 4)))), (a2, .inl (T 2, 8, .inl (fun k => bI (isE (yv k))))), (a3, .inl (T 2, 8, .inl (fun k => bI (isB (yv k))))), (a4, .inl (T 0, 60, .inl (fun k => nI (tw k / 4)))), (a5, .inl (T 2, 60, .inl (fun k => bI (isE (tw k)))))] := hD
    exact zh_iret () hx hb hr hlocks dX8_signed_23 hP hD hS ((zif_neg (zbf h1) rfl)) (rfl)
  · refine lv_aload_n hx hb dX8_signed_9 rfl (lv_at hl 0 rfl) ?_
    refine lv_iload_n hx hb dX8_signed_10 rfl (lv_at hl 1 rfl) ?_
    refine zh_v (T := T) hx hb hml hown hts k_X8_39 (c_X8_size l D T q a1 a2 a3 a4 a5 yv tw n0 nc ne th p hp) ⟨by decide, by decide⟩ rfl hl.1 [] rfl (Nat.le_of_ble_eq_true rfl) dX8_signed_11 ⟨Nat.le_of_ble_eq_true rfl, Nat.le_of_ble_eq_true rfl⟩ hK hP hD hS hA (ci := 4) rfl rfl rfl [0, 1, 2, 3, 4, 5] [] (wr := []) rfl rfl (by decide) (by decide) (by decide) [0, 1, 2, 3, 4, 5] (fun _ => [(q, .inr (4, [.ref a1, .ref a2, .ref a3, .ref a4, .ref a5, .int (nI n0), .int nc, .int (bI ne), .int th])), (a1, .inl (T 0, 8, .inl (fun k => nI (yv k / 4)))), (a2, .inl (T 2, 8, .inl (fun k => bI (isE (yv k))))), (a3, .inl (T 2, 8, .inl (fun k => bI (isB (yv k))))), (a4, .inl (T 0, 60, .inl (fun k => nI (tw k / 4)))), (a5, .inl (T 2, 60, .inl (fun k => bI (isE (tw k)))))]) (by decide) (fun _ => rfl) (fun _ H locs hP hD hS => ?_)
    have hP : va_P D zcl [(q, .inr (4, [.ref a1, .ref a2, .ref a3, .ref a4, .ref a5, .int (nI n0), .int nc, .int (bI ne), .int th])), (a1, .inl (T 0, 8, .inl (fun k => nI (yv k / 4)))), (a2, .inl (T 2, 8, .inl (fun k => bI (isE (yv k))))), (a3, .inl (T 2, 8, .inl (fun k => bI (isB (yv k))))), (a4, .inl (T 0, 60, .inl (fun k => nI (tw k / 4)))), (a5, .inl (T 2, 60, .inl (fun k => bI (isE (tw k)))))] H := hP
    have hD : va_D A [(q, .inr (4, [.ref a1, .ref a2, .ref a3, .ref a4, .ref a5, .int (nI n0), .int nc, .int (bI ne), .int th])), (a1, .inl (T 0, 8, .inl (fun k => nI (yv k / 4)))), (a2, .inl (T 2, 8, .inl (fun k => bI (isE (yv k))))), (a3, .inl (T 2, 8, .inl (fun k => bI (isB (yv k))))), (a4, .inl (T 0, 60, .inl (fun k => nI (tw k / 4)))), (a5, .inl (T 2, 60, .inl (fun k => bI (isE (tw k)))))] := hD
    refine lv_ineg hx hb dX8_signed_14 ?_
    refine lv_goto (tgt := 23) hx hb dX8_signed_15 (by decide) ?_
    exact zh_iret () hx hb hr hlocks dX8_signed_23 hP hD hS ((zif_pos h1 rfl)) (rfl)
set_option maxRecDepth 20000 in
theorem c_X8_fineAt (l : Launch) (D : va_G) (T : Nat → ClassId) (q a1 a2 a3 a4 a5 : Nat) (yv tw : Nat → Nat) (n0 : Nat) (nc : Int32) (ne : Bool) (th : Int32) (p : Nat) (hp : p < 8) (hy : ∀ k, yv k < 262144) : Hm l yX8_fineAt cX8_fineAt 2 (some FieldType.int) 2 0 0 D T [.ref q, .int (nI p)] [(q, .inr (4, [.ref a1, .ref a2, .ref a3, .ref a4, .ref a5, .int (nI n0), .int nc, .int (bI ne), .int th])), (a1, .inl (T 0, 8, .inl (fun k => nI (yv k / 4)))), (a2, .inl (T 2, 8, .inl (fun k => bI (isE (yv k))))), (a3, .inl (T 2, 8, .inl (fun k => bI (isB (yv k))))), (a4, .inl (T 0, 60, .inl (fun k => nI (tw k / 4)))), (a5, .inl (T 2, 60, .inl (fun k => bI (isE (tw k)))))] (some (.int (fI (yv p)))) (fun _ : Unit => [(q, .inr (4, [.ref a1, .ref a2, .ref a3, .ref a4, .ref a5, .int (nI n0), .int nc, .int (bI ne), .int th])), (a1, .inl (T 0, 8, .inl (fun k => nI (yv k / 4)))), (a2, .inl (T 2, 8, .inl (fun k => bI (isE (yv k))))), (a3, .inl (T 2, 8, .inl (fun k => bI (isB (yv k))))), (a4, .inl (T 0, 60, .inl (fun k => nI (tw k / 4)))), (a5, .inl (T 2, 60, .inl (fun k => bI (isE (tw k)))))]) := by
  refine Hm.of (by decide) (Nat.le_of_ble_eq_true rfl) ?_
  intro zp ze s zm args below zmeth zc hx hb hr hml hown hin hts hlocks A hA hP hK hD hS ls hl
  have hl : lv_has ls 2 [(0, .ref q), (1, .int (nI p))] := hl
  refine lv_aload_n hx hb dX8_fineAt_0 rfl (lv_at hl 0 rfl) ?_
  refine va_get (D := D) (ci := 4) (v := .ref a3) (C := RX8) (T := TX8) (N := 9) hx hb hts i_X8 hown hK hP 0 rfl rfl 2 (by decide) (hts _ u736) (fun _ h9 => h9) rfl dX8_fineAt_1 ?_
  refine lv_iload_n hx hb dX8_fineAt_4 rfl (lv_at hl 1 rfl) ?_
  refine za_zald hx hb hK hP 3 rfl p (rfl) (by omega) (by decide) dX8_fineAt_5 ?_
  refine zb_eq (tgt := 21) hx hb dX8_fineAt_6 (by decide) (fun h1 => ?_) (fun h1 => ?_)
  · refine lv_aload_n hx hb dX8_fineAt_21 rfl (lv_at hl 0 rfl) ?_
    refine lv_iload_n hx hb dX8_fineAt_22 rfl (lv_at hl 1 rfl) ?_
    refine zh_v (T := T) hx hb hml hown hts k_X8_39 (c_X8_size l D T q a1 a2 a3 a4 a5 yv tw n0 nc ne th p hp) ⟨by decide, by decide⟩ rfl hl.1 [] rfl (Nat.le_of_ble_eq_true rfl) dX8_fineAt_23 ⟨Nat.le_of_ble_eq_true rfl, Nat.le_of_ble_eq_true rfl⟩ hK hP hD hS hA (ci := 4) rfl rfl rfl [0, 1, 2, 3, 4, 5] [] (wr := []) rfl rfl (by decide) (by decide) (by decide) [0, 1, 2, 3, 4, 5] (fun _ => [(q, .inr (4, [.ref a1, .ref a2, .ref a3, .ref a4, .ref a5, .int (nI n0), .int nc, .int (bI ne), .int th])), (a1, .inl (T 0, 8, .inl (fun k => nI (yv k / 4)))), (a2, .inl (T 2, 8, .inl (fun k => bI (isE (yv k))))), (a3, .inl (T 2, 8, .inl (fun k => bI (isB (yv k))))), (a4, .inl (T 0, 60, .inl (fun k => nI (tw k / 4)))), (a5, .inl (T 2, 60, .inl (fun k => bI (isE (tw k)))))]) (by decide) (fun _ => rfl) (fun _ H locs hP hD hS => ?_)
    have hP : va_P D zcl [(q, .inr (4, [.ref a1, .ref a2, .ref a3, .ref a4, .ref a5, .int (nI n0), .int nc, .int (bI ne), .int th])), (a1, .inl (T 0, 8, .inl (fun k => nI (yv k / 4)))), (a2, .inl (T 2, 8, .inl (fun k => bI (isE (yv k))))), (a3, .inl (T 2, 8, .inl (fun k => bI (isB (yv k))))), (a4, .inl (T 0, 60, .inl (fun k => nI (tw k / 4)))), (a5, .inl (T 2, 60, .inl (fun k => bI (isE (tw k)))))] H := hP
    have hD : va_D A [(q, .inr (4, [.ref a1, .ref a2, .ref a3, .ref a4, .ref a5, .int (nI n0), .int nc, .int (bI ne), .int th])), (a1, .inl (T 0, 8, .inl (fun k => nI (yv k / 4)))), (a2, .inl (T 2, 8, .inl (fun k => bI (isE (yv k))))), (a3, .inl (T 2, 8, .inl (fun k => bI (isB (yv k))))), (a4, .inl (T 0, 60, .inl (fun k => nI (tw k / 4)))), (a5, .inl (T 2, 60, .inl (fun k => bI (isE (tw k)))))] := hD
    refine zp_call hx hb hml hown hts k_X8_47 (c_X8_fineOf l (eig (yv p)) (eig20 (hy p))) ⟨by decide, by decide⟩ rfl hl.1 [] rfl (Nat.le_of_ble_eq_true rfl) dX8_fineAt_26 ⟨Nat.le_of_ble_eq_true rfl, Nat.le_of_ble_eq_true rfl⟩ ?_
    exact zh_iret () hx hb hr hlocks dX8_fineAt_29 hP hD hS ((zif_neg (zbf h1) rfl)) (rfl)
  · refine lv_aload_n hx hb dX8_fineAt_9 rfl (lv_at hl 0 rfl) ?_
    refine lv_iload_n hx hb dX8_fineAt_10 rfl (lv_at hl 1 rfl) ?_
    refine zh_v (T := T) hx hb hml hown hts k_X8_39 (c_X8_size l D T q a1 a2 a3 a4 a5 yv tw n0 nc ne th p hp) ⟨by decide, by decide⟩ rfl hl.1 [] rfl (Nat.le_of_ble_eq_true rfl) dX8_fineAt_11 ⟨Nat.le_of_ble_eq_true rfl, Nat.le_of_ble_eq_true rfl⟩ hK hP hD hS hA (ci := 4) rfl rfl rfl [0, 1, 2, 3, 4, 5] [] (wr := []) rfl rfl (by decide) (by decide) (by decide) [0, 1, 2, 3, 4, 5] (fun _ => [(q, .inr (4, [.ref a1, .ref a2, .ref a3, .ref a4, .ref a5, .int (nI n0), .int nc, .int (bI ne), .int th])), (a1, .inl (T 0, 8, .inl (fun k => nI (yv k / 4)))), (a2, .inl (T 2, 8, .inl (fun k => bI (isE (yv k))))), (a3, .inl (T 2, 8, .inl (fun k => bI (isB (yv k))))), (a4, .inl (T 0, 60, .inl (fun k => nI (tw k / 4)))), (a5, .inl (T 2, 60, .inl (fun k => bI (isE (tw k)))))]) (by decide) (fun _ => rfl) (fun _ H locs hP hD hS => ?_)
    have hP : va_P D zcl [(q, .inr (4, [.ref a1, .ref a2, .ref a3, .ref a4, .ref a5, .int (nI n0), .int nc, .int (bI ne), .int th])), (a1, .inl (T 0, 8, .inl (fun k => nI (yv k / 4)))), (a2, .inl (T 2, 8, .inl (fun k => bI (isE (yv k))))), (a3, .inl (T 2, 8, .inl (fun k => bI (isB (yv k))))), (a4, .inl (T 0, 60, .inl (fun k => nI (tw k / 4)))), (a5, .inl (T 2, 60, .inl (fun k => bI (isE (tw k)))))] H := hP
    have hD : va_D A [(q, .inr (4, [.ref a1, .ref a2, .ref a3, .ref a4, .ref a5, .int (nI n0), .int nc, .int (bI ne), .int th])), (a1, .inl (T 0, 8, .inl (fun k => nI (yv k / 4)))), (a2, .inl (T 2, 8, .inl (fun k => bI (isE (yv k))))), (a3, .inl (T 2, 8, .inl (fun k => bI (isB (yv k))))), (a4, .inl (T 0, 60, .inl (fun k => nI (tw k / 4)))), (a5, .inl (T 2, 60, .inl (fun k => bI (isE (tw k)))))] := hD
    refine zp_call hx hb hml hown hts k_X8_47 (c_X8_fineOf l (eig (yv p)) (eig20 (hy p))) ⟨by decide, by decide⟩ rfl hl.1 [] rfl (Nat.le_of_ble_eq_true rfl) dX8_fineAt_14 ⟨Nat.le_of_ble_eq_true rfl, Nat.le_of_ble_eq_true rfl⟩ ?_
    refine lv_ineg hx hb dX8_fineAt_17 ?_
    refine lv_goto (tgt := 29) hx hb dX8_fineAt_18 (by decide) ?_
    exact zh_iret () hx hb hr hlocks dX8_fineAt_29 hP hD hS ((zif_pos h1 rfl)) (rfl)
set_option maxRecDepth 20000 in
theorem c_X8_write (l : Launch) (D : va_G) (T : Nat → ClassId) (q a1 a2 a3 a4 a5 : Nat) (yv tw : Nat → Nat) (n0 : Nat) (nc : Int32) (ne : Bool) (th : Int32) (p : Nat) (hp : p < 8) (cc : Nat) (e0 b0 : Bool) : Hm l yX8_write cX8_write 5 none 0 0 0 D T [.ref q, .int (nI p), .int (nI cc), .int (bI e0), .int (bI b0)] [(q, .inr (4, [.ref a1, .ref a2, .ref a3, .ref a4, .ref a5, .int (nI n0), .int nc, .int (bI ne), .int th])), (a1, .inl (T 0, 8, .inl (fun k => nI (yv k / 4)))), (a2, .inl (T 2, 8, .inl (fun k => bI (isE (yv k))))), (a3, .inl (T 2, 8, .inl (fun k => bI (isB (yv k))))), (a4, .inl (T 0, 60, .inl (fun k => nI (tw k / 4)))), (a5, .inl (T 2, 60, .inl (fun k => bI (isE (tw k)))))] none (fun _ : Unit => [(q, .inr (4, [.ref a1, .ref a2, .ref a3, .ref a4, .ref a5, .int (nI n0), .int nc, .int (bI ne), .int th])), (a1, .inl (T 0, 8, .inl (fun k => nI ((up yv p (mk cc e0 b0)) k / 4)))), (a2, .inl (T 2, 8, .inl (fun k => bI (isE ((up yv p (mk cc e0 b0)) k))))), (a3, .inl (T 2, 8, .inl (fun k => bI (isB ((up yv p (mk cc e0 b0)) k))))), (a4, .inl (T 0, 60, .inl (fun k => nI (tw k / 4)))), (a5, .inl (T 2, 60, .inl (fun k => bI (isE (tw k)))))]) := by
  refine Hm.of (by decide) (Nat.le_of_ble_eq_true rfl) ?_
  intro zp ze s zm args below zmeth zc hx hb hr hml hown hin hts hlocks A hA hP hK hD hS ls hl
  have hl : lv_has ls 5 [(0, .ref q), (1, .int (nI p)), (2, .int (nI cc)), (3, .int (bI e0)), (4, .int (bI b0))] := hl
  refine lv_aload_n hx hb dX8_write_0 rfl (lv_at hl 0 rfl) ?_
  refine va_get (D := D) (ci := 4) (v := .ref a1) (C := RX8) (T := TX8) (N := 9) hx hb hts i_X8 hown hK hP 0 rfl rfl 0 (by decide) (hts _ u734) (fun _ h9 => h9) rfl dX8_write_1 ?_
  refine lv_iload_n hx hb dX8_write_4 rfl (lv_at hl 1 rfl) ?_
  refine lv_iload_n hx hb dX8_write_5 rfl (lv_at hl 2 rfl) ?_
  refine za_iast hx hb hK hP hD hS 1 rfl p (rfl) (by omega) (by decide) (fun k => nI (up yv p (mk cc e0 b0) k / 4)) (up_1 yv p cc e0 b0) dX8_write_6 (fun H locs hP hD hS => ?_)
  have hP : va_P D zcl [(q, .inr (4, [.ref a1, .ref a2, .ref a3, .ref a4, .ref a5, .int (nI n0), .int nc, .int (bI ne), .int th])), (a1, .inl (T 0, 8, .inl (fun k => nI (up yv p (mk cc e0 b0) k / 4)))), (a2, .inl (T 2, 8, .inl (fun k => bI (isE (yv k))))), (a3, .inl (T 2, 8, .inl (fun k => bI (isB (yv k))))), (a4, .inl (T 0, 60, .inl (fun k => nI (tw k / 4)))), (a5, .inl (T 2, 60, .inl (fun k => bI (isE (tw k)))))] H := hP
  have hD : va_D A [(q, .inr (4, [.ref a1, .ref a2, .ref a3, .ref a4, .ref a5, .int (nI n0), .int nc, .int (bI ne), .int th])), (a1, .inl (T 0, 8, .inl (fun k => nI (up yv p (mk cc e0 b0) k / 4)))), (a2, .inl (T 2, 8, .inl (fun k => bI (isE (yv k))))), (a3, .inl (T 2, 8, .inl (fun k => bI (isB (yv k))))), (a4, .inl (T 0, 60, .inl (fun k => nI (tw k / 4)))), (a5, .inl (T 2, 60, .inl (fun k => bI (isE (tw k)))))] := hD
  refine lv_aload_n hx hb dX8_write_7 rfl (lv_at hl 0 rfl) ?_
  refine va_get (D := D) (ci := 4) (v := .ref a2) (C := RX8) (T := TX8) (N := 9) hx hb hts i_X8 hown hK hP 0 rfl rfl 1 (by decide) (hts _ u735) (fun _ h9 => h9) rfl dX8_write_8 ?_
  refine lv_iload_n hx hb dX8_write_11 rfl (lv_at hl 1 rfl) ?_
  refine lv_iload_n hx hb dX8_write_12 rfl (lv_at hl 3 rfl) ?_
  refine za_zast hx hb hK hP hD hS 2 rfl p (rfl) (by omega) (by decide) (fun k => bI (isE (up yv p (mk cc e0 b0) k))) (up_2 yv p cc e0 b0) dX8_write_13 (fun H locs hP hD hS => ?_)
  have hP : va_P D zcl [(q, .inr (4, [.ref a1, .ref a2, .ref a3, .ref a4, .ref a5, .int (nI n0), .int nc, .int (bI ne), .int th])), (a1, .inl (T 0, 8, .inl (fun k => nI (up yv p (mk cc e0 b0) k / 4)))), (a2, .inl (T 2, 8, .inl (fun k => bI (isE (up yv p (mk cc e0 b0) k))))), (a3, .inl (T 2, 8, .inl (fun k => bI (isB (yv k))))), (a4, .inl (T 0, 60, .inl (fun k => nI (tw k / 4)))), (a5, .inl (T 2, 60, .inl (fun k => bI (isE (tw k)))))] H := hP
  have hD : va_D A [(q, .inr (4, [.ref a1, .ref a2, .ref a3, .ref a4, .ref a5, .int (nI n0), .int nc, .int (bI ne), .int th])), (a1, .inl (T 0, 8, .inl (fun k => nI (up yv p (mk cc e0 b0) k / 4)))), (a2, .inl (T 2, 8, .inl (fun k => bI (isE (up yv p (mk cc e0 b0) k))))), (a3, .inl (T 2, 8, .inl (fun k => bI (isB (yv k))))), (a4, .inl (T 0, 60, .inl (fun k => nI (tw k / 4)))), (a5, .inl (T 2, 60, .inl (fun k => bI (isE (tw k)))))] := hD
  refine lv_aload_n hx hb dX8_write_14 rfl (lv_at hl 0 rfl) ?_
  refine va_get (D := D) (ci := 4) (v := .ref a3) (C := RX8) (T := TX8) (N := 9) hx hb hts i_X8 hown hK hP 0 rfl rfl 2 (by decide) (hts _ u736) (fun _ h9 => h9) rfl dX8_write_15 ?_
  refine lv_iload_n hx hb dX8_write_18 rfl (lv_at hl 1 rfl) ?_
  refine lv_iload hx hb dX8_write_19 (lv_at hl 4 rfl) ?_
  refine za_zast hx hb hK hP hD hS 3 rfl p (rfl) (by omega) (by decide) (fun k => bI (isB (up yv p (mk cc e0 b0) k))) (up_3 yv p cc e0 b0) dX8_write_21 (fun H locs hP hD hS => ?_)
  have hP : va_P D zcl [(q, .inr (4, [.ref a1, .ref a2, .ref a3, .ref a4, .ref a5, .int (nI n0), .int nc, .int (bI ne), .int th])), (a1, .inl (T 0, 8, .inl (fun k => nI (up yv p (mk cc e0 b0) k / 4)))), (a2, .inl (T 2, 8, .inl (fun k => bI (isE (up yv p (mk cc e0 b0) k))))), (a3, .inl (T 2, 8, .inl (fun k => bI (isB (up yv p (mk cc e0 b0) k))))), (a4, .inl (T 0, 60, .inl (fun k => nI (tw k / 4)))), (a5, .inl (T 2, 60, .inl (fun k => bI (isE (tw k)))))] H := hP
  have hD : va_D A [(q, .inr (4, [.ref a1, .ref a2, .ref a3, .ref a4, .ref a5, .int (nI n0), .int nc, .int (bI ne), .int th])), (a1, .inl (T 0, 8, .inl (fun k => nI (up yv p (mk cc e0 b0) k / 4)))), (a2, .inl (T 2, 8, .inl (fun k => bI (isE (up yv p (mk cc e0 b0) k))))), (a3, .inl (T 2, 8, .inl (fun k => bI (isB (up yv p (mk cc e0 b0) k))))), (a4, .inl (T 0, 60, .inl (fun k => nI (tw k / 4)))), (a5, .inl (T 2, 60, .inl (fun k => bI (isE (tw k)))))] := hD
  exact zh_vret () hx hb hr hlocks dX8_write_22 hP hD hS (rfl)
theorem kd {v : Nat} {b e : Bool} (h1 : isB v = b) (h2 : isE v = e) : nI (v % 4) = (if b = true then 2 else 0) + (if e = true then 1 else 0) := by
  subst h1
  subst h2
  unfold isB isE
  have h : v % 4 = 0 ∨ v % 4 = 1 ∨ v % 4 = 2 ∨ v % 4 = 3 := by omega
  rcases h with h | h | h | h
  · rw [h, show v / 2 % 2 = 0 by omega, show v % 2 = 0 by omega]; decide
  · rw [h, show v / 2 % 2 = 0 by omega, show v % 2 = 1 by omega]; decide
  · rw [h, show v / 2 % 2 = 1 by omega, show v % 2 = 0 by omega]; decide
  · rw [h, show v / 2 % 2 = 1 by omega, show v % 2 = 1 by omega]; decide
def exB (e : Nat) : Bool := if hvI e < 0 then false else true
def ordI (v w : Nat) : Int32 := if sgI w ≤ sgI v then (if sgI v ≤ sgI w then 0 else 1) else (-1)
def oppN (v : Nat) : Nat := mk (v / 4) (isE v) (!(isB v))
theorem eig_E {v : Nat} (h : isE v = true) : eig v = v / 4 := by
  unfold isE at h
  unfold eig
  rw [if_pos (by simpa using h)]
theorem eig_U {v : Nat} (h : isE v = false) : eig v = 8 * (v / 4) := by
  unfold isE at h
  unfold eig
  rw [if_neg (by simpa using h)]
def rdC (e : Nat) : Nat := if e % 8 = 0 then e / 8 else e
def rdE (e : Nat) : Bool := if e % 8 = 0 then false else true
def rdN (e : Nat) : Int32 := if rdC e ≤ 65535 then nI (rdC e) else 0
theorem lN_nneg {n : Nat} (h : n < 2 ^ 63) : ¬ lN n < 0 := fun q => absurd ((pk_lLT (b := 0) h (by decide)).mp q) (Nat.not_lt_zero n)
set_option maxRecDepth 20000 in
theorem c_X8_volume_ok (l : Launch) (D : va_G) (T : Nat → ClassId) (q a1 a2 a3 a4 a5 : Nat) (yv tw : Nat → Nat) (n0 : Nat) (nc : Int32) (ne : Bool) (th : Int32) (p : Nat) (hp : p < 8) : Hm l yX8_volume cX8_volume 2 (some FieldType.int) 3 0 0 D T [.ref q, .int (nI p)] [(q, .inr (4, [.ref a1, .ref a2, .ref a3, .ref a4, .ref a5, .int (nI n0), .int nc, .int (bI ne), .int th])), (a1, .inl (T 0, 8, .inl (fun k => nI (yv k / 4)))), (a2, .inl (T 2, 8, .inl (fun k => bI (isE (yv k))))), (a3, .inl (T 2, 8, .inl (fun k => bI (isB (yv k))))), (a4, .inl (T 0, 60, .inl (fun k => nI (tw k / 4)))), (a5, .inl (T 2, 60, .inl (fun k => bI (isE (tw k)))))] (some (.int (sgI (yv p)))) (fun _ : Unit => [(q, .inr (4, [.ref a1, .ref a2, .ref a3, .ref a4, .ref a5, .int (nI n0), .int nc, .int (bI ne), .int 0])), (a1, .inl (T 0, 8, .inl (fun k => nI (yv k / 4)))), (a2, .inl (T 2, 8, .inl (fun k => bI (isE (yv k))))), (a3, .inl (T 2, 8, .inl (fun k => bI (isB (yv k))))), (a4, .inl (T 0, 60, .inl (fun k => nI (tw k / 4)))), (a5, .inl (T 2, 60, .inl (fun k => bI (isE (tw k)))))]) := by
  refine Hm.of (by decide) (Nat.le_of_ble_eq_true rfl) ?_
  intro zp ze s zm args below zmeth zc hx hb hr hml hown hin hts hlocks A hA hP hK hD hS ls hl
  have hl : lv_has ls 2 [(0, .ref q), (1, .int (nI p))] := hl
  refine lv_aload_n hx hb dX8_volume_0 rfl (lv_at hl 0 rfl) ?_
  refine lv_iload_n hx hb dX8_volume_1 rfl (lv_at hl 1 rfl) ?_
  refine zh_v (T := T) hx hb hml hown hts k_X8_69 (c_X8_isPlace_ok l D T q a1 a2 a3 a4 a5 yv tw n0 nc ne th p hp) ⟨by decide, by decide⟩ rfl hl.1 [] rfl (Nat.le_of_ble_eq_true rfl) dX8_volume_2 ⟨Nat.le_of_ble_eq_true rfl, Nat.le_of_ble_eq_true rfl⟩ hK hP hD hS hA (ci := 4) rfl rfl rfl [0, 1, 2, 3, 4, 5] [] (wr := []) rfl rfl (by decide) (by decide) (by decide) [0, 1, 2, 3, 4, 5] (fun _ => [(q, .inr (4, [.ref a1, .ref a2, .ref a3, .ref a4, .ref a5, .int (nI n0), .int nc, .int (bI ne), .int 0])), (a1, .inl (T 0, 8, .inl (fun k => nI (yv k / 4)))), (a2, .inl (T 2, 8, .inl (fun k => bI (isE (yv k))))), (a3, .inl (T 2, 8, .inl (fun k => bI (isB (yv k))))), (a4, .inl (T 0, 60, .inl (fun k => nI (tw k / 4)))), (a5, .inl (T 2, 60, .inl (fun k => bI (isE (tw k)))))]) (by decide) (fun _ => rfl) (fun _ H locs hP hD hS => ?_)
  have hP : va_P D zcl [(q, .inr (4, [.ref a1, .ref a2, .ref a3, .ref a4, .ref a5, .int (nI n0), .int nc, .int (bI ne), .int 0])), (a1, .inl (T 0, 8, .inl (fun k => nI (yv k / 4)))), (a2, .inl (T 2, 8, .inl (fun k => bI (isE (yv k))))), (a3, .inl (T 2, 8, .inl (fun k => bI (isB (yv k))))), (a4, .inl (T 0, 60, .inl (fun k => nI (tw k / 4)))), (a5, .inl (T 2, 60, .inl (fun k => bI (isE (tw k)))))] H := hP
  have hD : va_D A [(q, .inr (4, [.ref a1, .ref a2, .ref a3, .ref a4, .ref a5, .int (nI n0), .int nc, .int (bI ne), .int 0])), (a1, .inl (T 0, 8, .inl (fun k => nI (yv k / 4)))), (a2, .inl (T 2, 8, .inl (fun k => bI (isE (yv k))))), (a3, .inl (T 2, 8, .inl (fun k => bI (isB (yv k))))), (a4, .inl (T 0, 60, .inl (fun k => nI (tw k / 4)))), (a5, .inl (T 2, 60, .inl (fun k => bI (isE (tw k)))))] := hD
  refine zb_eq (tgt := 16) hx hb dX8_volume_5 (by decide) (fun h1 => ?_) (fun h1 => ?_)
  · exact absurd h1 (by decide)
  · refine lv_aload_n hx hb dX8_volume_8 rfl (lv_at hl 0 rfl) ?_
    refine lv_iload_n hx hb dX8_volume_9 rfl (lv_at hl 1 rfl) ?_
    refine zh_v (T := T) hx hb hml hown hts k_X8_72 (c_X8_signed l D T q a1 a2 a3 a4 a5 yv tw n0 nc ne 0 p hp) ⟨by decide, by decide⟩ rfl hl.1 [] rfl (Nat.le_of_ble_eq_true rfl) dX8_volume_10 ⟨Nat.le_of_ble_eq_true rfl, Nat.le_of_ble_eq_true rfl⟩ hK hP hD hS hA (ci := 4) rfl rfl rfl [0, 1, 2, 3, 4, 5] [] (wr := []) rfl rfl (by decide) (by decide) (by decide) [0, 1, 2, 3, 4, 5] (fun _ => [(q, .inr (4, [.ref a1, .ref a2, .ref a3, .ref a4, .ref a5, .int (nI n0), .int nc, .int (bI ne), .int 0])), (a1, .inl (T 0, 8, .inl (fun k => nI (yv k / 4)))), (a2, .inl (T 2, 8, .inl (fun k => bI (isE (yv k))))), (a3, .inl (T 2, 8, .inl (fun k => bI (isB (yv k))))), (a4, .inl (T 0, 60, .inl (fun k => nI (tw k / 4)))), (a5, .inl (T 2, 60, .inl (fun k => bI (isE (tw k)))))]) (by decide) (fun _ => rfl) (fun _ H locs hP hD hS => ?_)
    have hP : va_P D zcl [(q, .inr (4, [.ref a1, .ref a2, .ref a3, .ref a4, .ref a5, .int (nI n0), .int nc, .int (bI ne), .int 0])), (a1, .inl (T 0, 8, .inl (fun k => nI (yv k / 4)))), (a2, .inl (T 2, 8, .inl (fun k => bI (isE (yv k))))), (a3, .inl (T 2, 8, .inl (fun k => bI (isB (yv k))))), (a4, .inl (T 0, 60, .inl (fun k => nI (tw k / 4)))), (a5, .inl (T 2, 60, .inl (fun k => bI (isE (tw k)))))] H := hP
    have hD : va_D A [(q, .inr (4, [.ref a1, .ref a2, .ref a3, .ref a4, .ref a5, .int (nI n0), .int nc, .int (bI ne), .int 0])), (a1, .inl (T 0, 8, .inl (fun k => nI (yv k / 4)))), (a2, .inl (T 2, 8, .inl (fun k => bI (isE (yv k))))), (a3, .inl (T 2, 8, .inl (fun k => bI (isB (yv k))))), (a4, .inl (T 0, 60, .inl (fun k => nI (tw k / 4)))), (a5, .inl (T 2, 60, .inl (fun k => bI (isE (tw k)))))] := hD
    refine lv_goto (tgt := 17) hx hb dX8_volume_13 (by decide) ?_
    exact zh_iret () hx hb hr hlocks dX8_volume_17 hP hD hS (rfl) (rfl)
set_option maxRecDepth 20000 in
theorem c_X8_volume_no (l : Launch) (D : va_G) (T : Nat → ClassId) (q a1 a2 a3 a4 a5 : Nat) (yv tw : Nat → Nat) (n0 : Nat) (nc : Int32) (ne : Bool) (th : Int32) (x : Int32) (hx0 : m_X8_is x = false) : Hm l yX8_volume cX8_volume 2 (some FieldType.int) 3 0 0 D T [.ref q, .int x] [(q, .inr (4, [.ref a1, .ref a2, .ref a3, .ref a4, .ref a5, .int (nI n0), .int nc, .int (bI ne), .int th])), (a1, .inl (T 0, 8, .inl (fun k => nI (yv k / 4)))), (a2, .inl (T 2, 8, .inl (fun k => bI (isE (yv k))))), (a3, .inl (T 2, 8, .inl (fun k => bI (isB (yv k))))), (a4, .inl (T 0, 60, .inl (fun k => nI (tw k / 4)))), (a5, .inl (T 2, 60, .inl (fun k => bI (isE (tw k)))))] (some (.int 0)) (fun _ : Unit => [(q, .inr (4, [.ref a1, .ref a2, .ref a3, .ref a4, .ref a5, .int (nI n0), .int nc, .int (bI ne), .int 1])), (a1, .inl (T 0, 8, .inl (fun k => nI (yv k / 4)))), (a2, .inl (T 2, 8, .inl (fun k => bI (isE (yv k))))), (a3, .inl (T 2, 8, .inl (fun k => bI (isB (yv k))))), (a4, .inl (T 0, 60, .inl (fun k => nI (tw k / 4)))), (a5, .inl (T 2, 60, .inl (fun k => bI (isE (tw k)))))]) := by
  refine Hm.of (by decide) (Nat.le_of_ble_eq_true rfl) ?_
  intro zp ze s zm args below zmeth zc hx hb hr hml hown hin hts hlocks A hA hP hK hD hS ls hl
  have hl : lv_has ls 2 [(0, .ref q), (1, .int x)] := hl
  refine lv_aload_n hx hb dX8_volume_0 rfl (lv_at hl 0 rfl) ?_
  refine lv_iload_n hx hb dX8_volume_1 rfl (lv_at hl 1 rfl) ?_
  refine zh_v (T := T) hx hb hml hown hts k_X8_69 (c_X8_isPlace_no l D T q a1 a2 a3 a4 a5 yv tw n0 nc ne th x hx0) ⟨by decide, by decide⟩ rfl hl.1 [] rfl (Nat.le_of_ble_eq_true rfl) dX8_volume_2 ⟨Nat.le_of_ble_eq_true rfl, Nat.le_of_ble_eq_true rfl⟩ hK hP hD hS hA (ci := 4) rfl rfl rfl [0, 1, 2, 3, 4, 5] [] (wr := []) rfl rfl (by decide) (by decide) (by decide) [0, 1, 2, 3, 4, 5] (fun _ => [(q, .inr (4, [.ref a1, .ref a2, .ref a3, .ref a4, .ref a5, .int (nI n0), .int nc, .int (bI ne), .int 1])), (a1, .inl (T 0, 8, .inl (fun k => nI (yv k / 4)))), (a2, .inl (T 2, 8, .inl (fun k => bI (isE (yv k))))), (a3, .inl (T 2, 8, .inl (fun k => bI (isB (yv k))))), (a4, .inl (T 0, 60, .inl (fun k => nI (tw k / 4)))), (a5, .inl (T 2, 60, .inl (fun k => bI (isE (tw k)))))]) (by decide) (fun _ => rfl) (fun _ H locs hP hD hS => ?_)
  have hP : va_P D zcl [(q, .inr (4, [.ref a1, .ref a2, .ref a3, .ref a4, .ref a5, .int (nI n0), .int nc, .int (bI ne), .int 1])), (a1, .inl (T 0, 8, .inl (fun k => nI (yv k / 4)))), (a2, .inl (T 2, 8, .inl (fun k => bI (isE (yv k))))), (a3, .inl (T 2, 8, .inl (fun k => bI (isB (yv k))))), (a4, .inl (T 0, 60, .inl (fun k => nI (tw k / 4)))), (a5, .inl (T 2, 60, .inl (fun k => bI (isE (tw k)))))] H := hP
  have hD : va_D A [(q, .inr (4, [.ref a1, .ref a2, .ref a3, .ref a4, .ref a5, .int (nI n0), .int nc, .int (bI ne), .int 1])), (a1, .inl (T 0, 8, .inl (fun k => nI (yv k / 4)))), (a2, .inl (T 2, 8, .inl (fun k => bI (isE (yv k))))), (a3, .inl (T 2, 8, .inl (fun k => bI (isB (yv k))))), (a4, .inl (T 0, 60, .inl (fun k => nI (tw k / 4)))), (a5, .inl (T 2, 60, .inl (fun k => bI (isE (tw k)))))] := hD
  refine zb_eq (tgt := 16) hx hb dX8_volume_5 (by decide) (fun h1 => ?_) (fun h1 => ?_)
  · refine lv_iconst (v := 0) hx hb dX8_volume_16 (by decide) ?_
    exact zh_iret () hx hb hr hlocks dX8_volume_17 hP hD hS (rfl) (rfl)
  · exact absurd h1 (by decide)
set_option maxRecDepth 20000 in
theorem c_X8_kind_ok (l : Launch) (D : va_G) (T : Nat → ClassId) (q a1 a2 a3 a4 a5 : Nat) (yv tw : Nat → Nat) (n0 : Nat) (nc : Int32) (ne : Bool) (th : Int32) (p : Nat) (hp : p < 8) : Hm l yX8_kind cX8_kind 2 (some FieldType.int) 2 0 0 D T [.ref q, .int (nI p)] [(q, .inr (4, [.ref a1, .ref a2, .ref a3, .ref a4, .ref a5, .int (nI n0), .int nc, .int (bI ne), .int th])), (a1, .inl (T 0, 8, .inl (fun k => nI (yv k / 4)))), (a2, .inl (T 2, 8, .inl (fun k => bI (isE (yv k))))), (a3, .inl (T 2, 8, .inl (fun k => bI (isB (yv k))))), (a4, .inl (T 0, 60, .inl (fun k => nI (tw k / 4)))), (a5, .inl (T 2, 60, .inl (fun k => bI (isE (tw k)))))] (some (.int (nI (yv p % 4)))) (fun _ : Unit => [(q, .inr (4, [.ref a1, .ref a2, .ref a3, .ref a4, .ref a5, .int (nI n0), .int nc, .int (bI ne), .int 0])), (a1, .inl (T 0, 8, .inl (fun k => nI (yv k / 4)))), (a2, .inl (T 2, 8, .inl (fun k => bI (isE (yv k))))), (a3, .inl (T 2, 8, .inl (fun k => bI (isB (yv k))))), (a4, .inl (T 0, 60, .inl (fun k => nI (tw k / 4)))), (a5, .inl (T 2, 60, .inl (fun k => bI (isE (tw k)))))]) := by
  refine Hm.of (by decide) (Nat.le_of_ble_eq_true rfl) ?_
  intro zp ze s zm args below zmeth zc hx hb hr hml hown hin hts hlocks A hA hP hK hD hS ls hl
  have hl : lv_has ls 2 [(0, .ref q), (1, .int (nI p))] := hl
  refine lv_aload_n hx hb dX8_kind_0 rfl (lv_at hl 0 rfl) ?_
  refine lv_iload_n hx hb dX8_kind_1 rfl (lv_at hl 1 rfl) ?_
  refine zh_v (T := T) hx hb hml hown hts k_X8_69 (c_X8_isPlace_ok l D T q a1 a2 a3 a4 a5 yv tw n0 nc ne th p hp) ⟨by decide, by decide⟩ rfl hl.1 [] rfl (Nat.le_of_ble_eq_true rfl) dX8_kind_2 ⟨Nat.le_of_ble_eq_true rfl, Nat.le_of_ble_eq_true rfl⟩ hK hP hD hS hA (ci := 4) rfl rfl rfl [0, 1, 2, 3, 4, 5] [] (wr := []) rfl rfl (by decide) (by decide) (by decide) [0, 1, 2, 3, 4, 5] (fun _ => [(q, .inr (4, [.ref a1, .ref a2, .ref a3, .ref a4, .ref a5, .int (nI n0), .int nc, .int (bI ne), .int 0])), (a1, .inl (T 0, 8, .inl (fun k => nI (yv k / 4)))), (a2, .inl (T 2, 8, .inl (fun k => bI (isE (yv k))))), (a3, .inl (T 2, 8, .inl (fun k => bI (isB (yv k))))), (a4, .inl (T 0, 60, .inl (fun k => nI (tw k / 4)))), (a5, .inl (T 2, 60, .inl (fun k => bI (isE (tw k)))))]) (by decide) (fun _ => rfl) (fun _ H locs hP hD hS => ?_)
  have hP : va_P D zcl [(q, .inr (4, [.ref a1, .ref a2, .ref a3, .ref a4, .ref a5, .int (nI n0), .int nc, .int (bI ne), .int 0])), (a1, .inl (T 0, 8, .inl (fun k => nI (yv k / 4)))), (a2, .inl (T 2, 8, .inl (fun k => bI (isE (yv k))))), (a3, .inl (T 2, 8, .inl (fun k => bI (isB (yv k))))), (a4, .inl (T 0, 60, .inl (fun k => nI (tw k / 4)))), (a5, .inl (T 2, 60, .inl (fun k => bI (isE (tw k)))))] H := hP
  have hD : va_D A [(q, .inr (4, [.ref a1, .ref a2, .ref a3, .ref a4, .ref a5, .int (nI n0), .int nc, .int (bI ne), .int 0])), (a1, .inl (T 0, 8, .inl (fun k => nI (yv k / 4)))), (a2, .inl (T 2, 8, .inl (fun k => bI (isE (yv k))))), (a3, .inl (T 2, 8, .inl (fun k => bI (isB (yv k))))), (a4, .inl (T 0, 60, .inl (fun k => nI (tw k / 4)))), (a5, .inl (T 2, 60, .inl (fun k => bI (isE (tw k)))))] := hD
  refine zb_ne (tgt := 12) hx hb dX8_kind_5 (by decide) (fun h1 => ?_) (fun h1 => ?_)
  · refine lv_aload_n hx hb dX8_kind_12 rfl (lv_at hl 0 rfl) ?_
    refine va_get (D := D) (ci := 4) (v := .ref a3) (C := RX8) (T := TX8) (N := 9) hx hb hts i_X8 hown hK hP 0 rfl rfl 2 (by decide) (hts _ u736) (fun _ h9 => h9) rfl dX8_kind_13 ?_
    refine lv_iload_n hx hb dX8_kind_16 rfl (lv_at hl 1 rfl) ?_
    refine za_zald hx hb hK hP 3 rfl p (rfl) (by omega) (by decide) dX8_kind_17 ?_
    refine zb_eq (tgt := 25) hx hb dX8_kind_18 (by decide) (fun h2 => ?_) (fun h2 => ?_)
    · refine lv_iconst (v := 0) hx hb dX8_kind_25 (by decide) ?_
      refine lv_aload_n hx hb dX8_kind_26 rfl (lv_at hl 0 rfl) ?_
      refine va_get (D := D) (ci := 4) (v := .ref a2) (C := RX8) (T := TX8) (N := 9) hx hb hts i_X8 hown hK hP 0 rfl rfl 1 (by decide) (hts _ u735) (fun _ h9 => h9) rfl dX8_kind_27 ?_
      refine lv_iload_n hx hb dX8_kind_30 rfl (lv_at hl 1 rfl) ?_
      refine za_zald hx hb hK hP 2 rfl p (rfl) (by omega) (by decide) dX8_kind_31 ?_
      refine zb_eq (tgt := 39) hx hb dX8_kind_32 (by decide) (fun h3 => ?_) (fun h3 => ?_)
      · refine lv_iconst (v := 0) hx hb dX8_kind_39 (by decide) ?_
        refine lv_iadd hx hb dX8_kind_40 ?_
        exact zh_iret () hx hb hr hlocks dX8_kind_41 hP hD hS (by rw [kd h2 h3]; rfl) (rfl)
      · refine lv_iconst (v := 1) hx hb dX8_kind_35 (by decide) ?_
        refine lv_goto (tgt := 40) hx hb dX8_kind_36 (by decide) ?_
        refine lv_iadd hx hb dX8_kind_40 ?_
        exact zh_iret () hx hb hr hlocks dX8_kind_41 hP hD hS (by rw [kd h2 h3]; rfl) (rfl)
    · refine lv_iconst (v := 2) hx hb dX8_kind_21 (by decide) ?_
      refine lv_goto (tgt := 26) hx hb dX8_kind_22 (by decide) ?_
      refine lv_aload_n hx hb dX8_kind_26 rfl (lv_at hl 0 rfl) ?_
      refine va_get (D := D) (ci := 4) (v := .ref a2) (C := RX8) (T := TX8) (N := 9) hx hb hts i_X8 hown hK hP 0 rfl rfl 1 (by decide) (hts _ u735) (fun _ h9 => h9) rfl dX8_kind_27 ?_
      refine lv_iload_n hx hb dX8_kind_30 rfl (lv_at hl 1 rfl) ?_
      refine za_zald hx hb hK hP 2 rfl p (rfl) (by omega) (by decide) dX8_kind_31 ?_
      refine zb_eq (tgt := 39) hx hb dX8_kind_32 (by decide) (fun h4 => ?_) (fun h4 => ?_)
      · refine lv_iconst (v := 0) hx hb dX8_kind_39 (by decide) ?_
        refine lv_iadd hx hb dX8_kind_40 ?_
        exact zh_iret () hx hb hr hlocks dX8_kind_41 hP hD hS (by rw [kd h2 h4]; rfl) (rfl)
      · refine lv_iconst (v := 1) hx hb dX8_kind_35 (by decide) ?_
        refine lv_goto (tgt := 40) hx hb dX8_kind_36 (by decide) ?_
        refine lv_iadd hx hb dX8_kind_40 ?_
        exact zh_iret () hx hb hr hlocks dX8_kind_41 hP hD hS (by rw [kd h2 h4]; rfl) (rfl)
  · exact absurd h1 (by decide)
set_option maxRecDepth 20000 in
theorem c_X8_kind_no (l : Launch) (D : va_G) (T : Nat → ClassId) (q a1 a2 a3 a4 a5 : Nat) (yv tw : Nat → Nat) (n0 : Nat) (nc : Int32) (ne : Bool) (th : Int32) (x : Int32) (hx0 : m_X8_is x = false) : Hm l yX8_kind cX8_kind 2 (some FieldType.int) 2 0 0 D T [.ref q, .int x] [(q, .inr (4, [.ref a1, .ref a2, .ref a3, .ref a4, .ref a5, .int (nI n0), .int nc, .int (bI ne), .int th])), (a1, .inl (T 0, 8, .inl (fun k => nI (yv k / 4)))), (a2, .inl (T 2, 8, .inl (fun k => bI (isE (yv k))))), (a3, .inl (T 2, 8, .inl (fun k => bI (isB (yv k))))), (a4, .inl (T 0, 60, .inl (fun k => nI (tw k / 4)))), (a5, .inl (T 2, 60, .inl (fun k => bI (isE (tw k)))))] (some (.int 0)) (fun _ : Unit => [(q, .inr (4, [.ref a1, .ref a2, .ref a3, .ref a4, .ref a5, .int (nI n0), .int nc, .int (bI ne), .int 1])), (a1, .inl (T 0, 8, .inl (fun k => nI (yv k / 4)))), (a2, .inl (T 2, 8, .inl (fun k => bI (isE (yv k))))), (a3, .inl (T 2, 8, .inl (fun k => bI (isB (yv k))))), (a4, .inl (T 0, 60, .inl (fun k => nI (tw k / 4)))), (a5, .inl (T 2, 60, .inl (fun k => bI (isE (tw k)))))]) := by
  refine Hm.of (by decide) (Nat.le_of_ble_eq_true rfl) ?_
  intro zp ze s zm args below zmeth zc hx hb hr hml hown hin hts hlocks A hA hP hK hD hS ls hl
  have hl : lv_has ls 2 [(0, .ref q), (1, .int x)] := hl
  refine lv_aload_n hx hb dX8_kind_0 rfl (lv_at hl 0 rfl) ?_
  refine lv_iload_n hx hb dX8_kind_1 rfl (lv_at hl 1 rfl) ?_
  refine zh_v (T := T) hx hb hml hown hts k_X8_69 (c_X8_isPlace_no l D T q a1 a2 a3 a4 a5 yv tw n0 nc ne th x hx0) ⟨by decide, by decide⟩ rfl hl.1 [] rfl (Nat.le_of_ble_eq_true rfl) dX8_kind_2 ⟨Nat.le_of_ble_eq_true rfl, Nat.le_of_ble_eq_true rfl⟩ hK hP hD hS hA (ci := 4) rfl rfl rfl [0, 1, 2, 3, 4, 5] [] (wr := []) rfl rfl (by decide) (by decide) (by decide) [0, 1, 2, 3, 4, 5] (fun _ => [(q, .inr (4, [.ref a1, .ref a2, .ref a3, .ref a4, .ref a5, .int (nI n0), .int nc, .int (bI ne), .int 1])), (a1, .inl (T 0, 8, .inl (fun k => nI (yv k / 4)))), (a2, .inl (T 2, 8, .inl (fun k => bI (isE (yv k))))), (a3, .inl (T 2, 8, .inl (fun k => bI (isB (yv k))))), (a4, .inl (T 0, 60, .inl (fun k => nI (tw k / 4)))), (a5, .inl (T 2, 60, .inl (fun k => bI (isE (tw k)))))]) (by decide) (fun _ => rfl) (fun _ H locs hP hD hS => ?_)
  have hP : va_P D zcl [(q, .inr (4, [.ref a1, .ref a2, .ref a3, .ref a4, .ref a5, .int (nI n0), .int nc, .int (bI ne), .int 1])), (a1, .inl (T 0, 8, .inl (fun k => nI (yv k / 4)))), (a2, .inl (T 2, 8, .inl (fun k => bI (isE (yv k))))), (a3, .inl (T 2, 8, .inl (fun k => bI (isB (yv k))))), (a4, .inl (T 0, 60, .inl (fun k => nI (tw k / 4)))), (a5, .inl (T 2, 60, .inl (fun k => bI (isE (tw k)))))] H := hP
  have hD : va_D A [(q, .inr (4, [.ref a1, .ref a2, .ref a3, .ref a4, .ref a5, .int (nI n0), .int nc, .int (bI ne), .int 1])), (a1, .inl (T 0, 8, .inl (fun k => nI (yv k / 4)))), (a2, .inl (T 2, 8, .inl (fun k => bI (isE (yv k))))), (a3, .inl (T 2, 8, .inl (fun k => bI (isB (yv k))))), (a4, .inl (T 0, 60, .inl (fun k => nI (tw k / 4)))), (a5, .inl (T 2, 60, .inl (fun k => bI (isE (tw k)))))] := hD
  refine zb_ne (tgt := 12) hx hb dX8_kind_5 (by decide) (fun h1 => ?_) (fun h1 => ?_)
  · exact absurd h1 (by decide)
  · refine lv_iconst (v := 0) hx hb dX8_kind_8 (by decide) ?_
    refine lv_goto (tgt := 41) hx hb dX8_kind_9 (by decide) ?_
    exact zh_iret () hx hb hr hlocks dX8_kind_41 hP hD hS (rfl) (rfl)
set_option maxRecDepth 20000 in
theorem c_X8_fine_ok (l : Launch) (D : va_G) (T : Nat → ClassId) (q a1 a2 a3 a4 a5 : Nat) (yv tw : Nat → Nat) (n0 : Nat) (nc : Int32) (ne : Bool) (th : Int32) (p : Nat) (hp : p < 8) (hy : ∀ k, yv k < 262144) : Hm l yX8_fine cX8_fine 2 (some FieldType.int) 3 0 0 D T [.ref q, .int (nI p)] [(q, .inr (4, [.ref a1, .ref a2, .ref a3, .ref a4, .ref a5, .int (nI n0), .int nc, .int (bI ne), .int th])), (a1, .inl (T 0, 8, .inl (fun k => nI (yv k / 4)))), (a2, .inl (T 2, 8, .inl (fun k => bI (isE (yv k))))), (a3, .inl (T 2, 8, .inl (fun k => bI (isB (yv k))))), (a4, .inl (T 0, 60, .inl (fun k => nI (tw k / 4)))), (a5, .inl (T 2, 60, .inl (fun k => bI (isE (tw k)))))] (some (.int (fI (yv p)))) (fun _ : Unit => [(q, .inr (4, [.ref a1, .ref a2, .ref a3, .ref a4, .ref a5, .int (nI n0), .int nc, .int (bI ne), .int 0])), (a1, .inl (T 0, 8, .inl (fun k => nI (yv k / 4)))), (a2, .inl (T 2, 8, .inl (fun k => bI (isE (yv k))))), (a3, .inl (T 2, 8, .inl (fun k => bI (isB (yv k))))), (a4, .inl (T 0, 60, .inl (fun k => nI (tw k / 4)))), (a5, .inl (T 2, 60, .inl (fun k => bI (isE (tw k)))))]) := by
  refine Hm.of (by decide) (Nat.le_of_ble_eq_true rfl) ?_
  intro zp ze s zm args below zmeth zc hx hb hr hml hown hin hts hlocks A hA hP hK hD hS ls hl
  have hl : lv_has ls 2 [(0, .ref q), (1, .int (nI p))] := hl
  refine lv_aload_n hx hb dX8_fine_0 rfl (lv_at hl 0 rfl) ?_
  refine lv_iload_n hx hb dX8_fine_1 rfl (lv_at hl 1 rfl) ?_
  refine zh_v (T := T) hx hb hml hown hts k_X8_69 (c_X8_isPlace_ok l D T q a1 a2 a3 a4 a5 yv tw n0 nc ne th p hp) ⟨by decide, by decide⟩ rfl hl.1 [] rfl (Nat.le_of_ble_eq_true rfl) dX8_fine_2 ⟨Nat.le_of_ble_eq_true rfl, Nat.le_of_ble_eq_true rfl⟩ hK hP hD hS hA (ci := 4) rfl rfl rfl [0, 1, 2, 3, 4, 5] [] (wr := []) rfl rfl (by decide) (by decide) (by decide) [0, 1, 2, 3, 4, 5] (fun _ => [(q, .inr (4, [.ref a1, .ref a2, .ref a3, .ref a4, .ref a5, .int (nI n0), .int nc, .int (bI ne), .int 0])), (a1, .inl (T 0, 8, .inl (fun k => nI (yv k / 4)))), (a2, .inl (T 2, 8, .inl (fun k => bI (isE (yv k))))), (a3, .inl (T 2, 8, .inl (fun k => bI (isB (yv k))))), (a4, .inl (T 0, 60, .inl (fun k => nI (tw k / 4)))), (a5, .inl (T 2, 60, .inl (fun k => bI (isE (tw k)))))]) (by decide) (fun _ => rfl) (fun _ H locs hP hD hS => ?_)
  have hP : va_P D zcl [(q, .inr (4, [.ref a1, .ref a2, .ref a3, .ref a4, .ref a5, .int (nI n0), .int nc, .int (bI ne), .int 0])), (a1, .inl (T 0, 8, .inl (fun k => nI (yv k / 4)))), (a2, .inl (T 2, 8, .inl (fun k => bI (isE (yv k))))), (a3, .inl (T 2, 8, .inl (fun k => bI (isB (yv k))))), (a4, .inl (T 0, 60, .inl (fun k => nI (tw k / 4)))), (a5, .inl (T 2, 60, .inl (fun k => bI (isE (tw k)))))] H := hP
  have hD : va_D A [(q, .inr (4, [.ref a1, .ref a2, .ref a3, .ref a4, .ref a5, .int (nI n0), .int nc, .int (bI ne), .int 0])), (a1, .inl (T 0, 8, .inl (fun k => nI (yv k / 4)))), (a2, .inl (T 2, 8, .inl (fun k => bI (isE (yv k))))), (a3, .inl (T 2, 8, .inl (fun k => bI (isB (yv k))))), (a4, .inl (T 0, 60, .inl (fun k => nI (tw k / 4)))), (a5, .inl (T 2, 60, .inl (fun k => bI (isE (tw k)))))] := hD
  refine zb_eq (tgt := 16) hx hb dX8_fine_5 (by decide) (fun h1 => ?_) (fun h1 => ?_)
  · exact absurd h1 (by decide)
  · refine lv_aload_n hx hb dX8_fine_8 rfl (lv_at hl 0 rfl) ?_
    refine lv_iload_n hx hb dX8_fine_9 rfl (lv_at hl 1 rfl) ?_
    refine zh_v (T := T) hx hb hml hown hts k_X8_66 (c_X8_fineAt l D T q a1 a2 a3 a4 a5 yv tw n0 nc ne 0 p hp hy) ⟨by decide, by decide⟩ rfl hl.1 [] rfl (Nat.le_of_ble_eq_true rfl) dX8_fine_10 ⟨Nat.le_of_ble_eq_true rfl, Nat.le_of_ble_eq_true rfl⟩ hK hP hD hS hA (ci := 4) rfl rfl rfl [0, 1, 2, 3, 4, 5] [] (wr := []) rfl rfl (by decide) (by decide) (by decide) [0, 1, 2, 3, 4, 5] (fun _ => [(q, .inr (4, [.ref a1, .ref a2, .ref a3, .ref a4, .ref a5, .int (nI n0), .int nc, .int (bI ne), .int 0])), (a1, .inl (T 0, 8, .inl (fun k => nI (yv k / 4)))), (a2, .inl (T 2, 8, .inl (fun k => bI (isE (yv k))))), (a3, .inl (T 2, 8, .inl (fun k => bI (isB (yv k))))), (a4, .inl (T 0, 60, .inl (fun k => nI (tw k / 4)))), (a5, .inl (T 2, 60, .inl (fun k => bI (isE (tw k)))))]) (by decide) (fun _ => rfl) (fun _ H locs hP hD hS => ?_)
    have hP : va_P D zcl [(q, .inr (4, [.ref a1, .ref a2, .ref a3, .ref a4, .ref a5, .int (nI n0), .int nc, .int (bI ne), .int 0])), (a1, .inl (T 0, 8, .inl (fun k => nI (yv k / 4)))), (a2, .inl (T 2, 8, .inl (fun k => bI (isE (yv k))))), (a3, .inl (T 2, 8, .inl (fun k => bI (isB (yv k))))), (a4, .inl (T 0, 60, .inl (fun k => nI (tw k / 4)))), (a5, .inl (T 2, 60, .inl (fun k => bI (isE (tw k)))))] H := hP
    have hD : va_D A [(q, .inr (4, [.ref a1, .ref a2, .ref a3, .ref a4, .ref a5, .int (nI n0), .int nc, .int (bI ne), .int 0])), (a1, .inl (T 0, 8, .inl (fun k => nI (yv k / 4)))), (a2, .inl (T 2, 8, .inl (fun k => bI (isE (yv k))))), (a3, .inl (T 2, 8, .inl (fun k => bI (isB (yv k))))), (a4, .inl (T 0, 60, .inl (fun k => nI (tw k / 4)))), (a5, .inl (T 2, 60, .inl (fun k => bI (isE (tw k)))))] := hD
    refine lv_goto (tgt := 17) hx hb dX8_fine_13 (by decide) ?_
    exact zh_iret () hx hb hr hlocks dX8_fine_17 hP hD hS (rfl) (rfl)
set_option maxRecDepth 20000 in
theorem c_X8_fine_no (l : Launch) (D : va_G) (T : Nat → ClassId) (q a1 a2 a3 a4 a5 : Nat) (yv tw : Nat → Nat) (n0 : Nat) (nc : Int32) (ne : Bool) (th : Int32) (x : Int32) (hx0 : m_X8_is x = false) : Hm l yX8_fine cX8_fine 2 (some FieldType.int) 3 0 0 D T [.ref q, .int x] [(q, .inr (4, [.ref a1, .ref a2, .ref a3, .ref a4, .ref a5, .int (nI n0), .int nc, .int (bI ne), .int th])), (a1, .inl (T 0, 8, .inl (fun k => nI (yv k / 4)))), (a2, .inl (T 2, 8, .inl (fun k => bI (isE (yv k))))), (a3, .inl (T 2, 8, .inl (fun k => bI (isB (yv k))))), (a4, .inl (T 0, 60, .inl (fun k => nI (tw k / 4)))), (a5, .inl (T 2, 60, .inl (fun k => bI (isE (tw k)))))] (some (.int 0)) (fun _ : Unit => [(q, .inr (4, [.ref a1, .ref a2, .ref a3, .ref a4, .ref a5, .int (nI n0), .int nc, .int (bI ne), .int 1])), (a1, .inl (T 0, 8, .inl (fun k => nI (yv k / 4)))), (a2, .inl (T 2, 8, .inl (fun k => bI (isE (yv k))))), (a3, .inl (T 2, 8, .inl (fun k => bI (isB (yv k))))), (a4, .inl (T 0, 60, .inl (fun k => nI (tw k / 4)))), (a5, .inl (T 2, 60, .inl (fun k => bI (isE (tw k)))))]) := by
  refine Hm.of (by decide) (Nat.le_of_ble_eq_true rfl) ?_
  intro zp ze s zm args below zmeth zc hx hb hr hml hown hin hts hlocks A hA hP hK hD hS ls hl
  have hl : lv_has ls 2 [(0, .ref q), (1, .int x)] := hl
  refine lv_aload_n hx hb dX8_fine_0 rfl (lv_at hl 0 rfl) ?_
  refine lv_iload_n hx hb dX8_fine_1 rfl (lv_at hl 1 rfl) ?_
  refine zh_v (T := T) hx hb hml hown hts k_X8_69 (c_X8_isPlace_no l D T q a1 a2 a3 a4 a5 yv tw n0 nc ne th x hx0) ⟨by decide, by decide⟩ rfl hl.1 [] rfl (Nat.le_of_ble_eq_true rfl) dX8_fine_2 ⟨Nat.le_of_ble_eq_true rfl, Nat.le_of_ble_eq_true rfl⟩ hK hP hD hS hA (ci := 4) rfl rfl rfl [0, 1, 2, 3, 4, 5] [] (wr := []) rfl rfl (by decide) (by decide) (by decide) [0, 1, 2, 3, 4, 5] (fun _ => [(q, .inr (4, [.ref a1, .ref a2, .ref a3, .ref a4, .ref a5, .int (nI n0), .int nc, .int (bI ne), .int 1])), (a1, .inl (T 0, 8, .inl (fun k => nI (yv k / 4)))), (a2, .inl (T 2, 8, .inl (fun k => bI (isE (yv k))))), (a3, .inl (T 2, 8, .inl (fun k => bI (isB (yv k))))), (a4, .inl (T 0, 60, .inl (fun k => nI (tw k / 4)))), (a5, .inl (T 2, 60, .inl (fun k => bI (isE (tw k)))))]) (by decide) (fun _ => rfl) (fun _ H locs hP hD hS => ?_)
  have hP : va_P D zcl [(q, .inr (4, [.ref a1, .ref a2, .ref a3, .ref a4, .ref a5, .int (nI n0), .int nc, .int (bI ne), .int 1])), (a1, .inl (T 0, 8, .inl (fun k => nI (yv k / 4)))), (a2, .inl (T 2, 8, .inl (fun k => bI (isE (yv k))))), (a3, .inl (T 2, 8, .inl (fun k => bI (isB (yv k))))), (a4, .inl (T 0, 60, .inl (fun k => nI (tw k / 4)))), (a5, .inl (T 2, 60, .inl (fun k => bI (isE (tw k)))))] H := hP
  have hD : va_D A [(q, .inr (4, [.ref a1, .ref a2, .ref a3, .ref a4, .ref a5, .int (nI n0), .int nc, .int (bI ne), .int 1])), (a1, .inl (T 0, 8, .inl (fun k => nI (yv k / 4)))), (a2, .inl (T 2, 8, .inl (fun k => bI (isE (yv k))))), (a3, .inl (T 2, 8, .inl (fun k => bI (isB (yv k))))), (a4, .inl (T 0, 60, .inl (fun k => nI (tw k / 4)))), (a5, .inl (T 2, 60, .inl (fun k => bI (isE (tw k)))))] := hD
  refine zb_eq (tgt := 16) hx hb dX8_fine_5 (by decide) (fun h1 => ?_) (fun h1 => ?_)
  · refine lv_iconst (v := 0) hx hb dX8_fine_16 (by decide) ?_
    exact zh_iret () hx hb hr hlocks dX8_fine_17 hP hD hS (rfl) (rfl)
  · exact absurd h1 (by decide)
set_option maxRecDepth 20000 in
theorem c_X8_whole_ok (l : Launch) (D : va_G) (T : Nat → ClassId) (q a1 a2 a3 a4 a5 : Nat) (yv tw : Nat → Nat) (n0 : Nat) (nc : Int32) (ne : Bool) (th : Int32) (p : Nat) (hp : p < 8) (hy : ∀ k, yv k < 262144) : Hm l yX8_whole cX8_whole 2 (some FieldType.int) 3 0 0 D T [.ref q, .int (nI p)] [(q, .inr (4, [.ref a1, .ref a2, .ref a3, .ref a4, .ref a5, .int (nI n0), .int nc, .int (bI ne), .int th])), (a1, .inl (T 0, 8, .inl (fun k => nI (yv k / 4)))), (a2, .inl (T 2, 8, .inl (fun k => bI (isE (yv k))))), (a3, .inl (T 2, 8, .inl (fun k => bI (isB (yv k))))), (a4, .inl (T 0, 60, .inl (fun k => nI (tw k / 4)))), (a5, .inl (T 2, 60, .inl (fun k => bI (isE (tw k)))))] (some (.int (fI (yv p) / 1024))) (fun _ : Unit => [(q, .inr (4, [.ref a1, .ref a2, .ref a3, .ref a4, .ref a5, .int (nI n0), .int nc, .int (bI ne), .int 0])), (a1, .inl (T 0, 8, .inl (fun k => nI (yv k / 4)))), (a2, .inl (T 2, 8, .inl (fun k => bI (isE (yv k))))), (a3, .inl (T 2, 8, .inl (fun k => bI (isB (yv k))))), (a4, .inl (T 0, 60, .inl (fun k => nI (tw k / 4)))), (a5, .inl (T 2, 60, .inl (fun k => bI (isE (tw k)))))]) := by
  refine Hm.of (by decide) (Nat.le_of_ble_eq_true rfl) ?_
  intro zp ze s zm args below zmeth zc hx hb hr hml hown hin hts hlocks A hA hP hK hD hS ls hl
  have hl : lv_has ls 2 [(0, .ref q), (1, .int (nI p))] := hl
  refine lv_aload_n hx hb dX8_whole_0 rfl (lv_at hl 0 rfl) ?_
  refine lv_iload_n hx hb dX8_whole_1 rfl (lv_at hl 1 rfl) ?_
  refine zh_v (T := T) hx hb hml hown hts k_X8_69 (c_X8_isPlace_ok l D T q a1 a2 a3 a4 a5 yv tw n0 nc ne th p hp) ⟨by decide, by decide⟩ rfl hl.1 [] rfl (Nat.le_of_ble_eq_true rfl) dX8_whole_2 ⟨Nat.le_of_ble_eq_true rfl, Nat.le_of_ble_eq_true rfl⟩ hK hP hD hS hA (ci := 4) rfl rfl rfl [0, 1, 2, 3, 4, 5] [] (wr := []) rfl rfl (by decide) (by decide) (by decide) [0, 1, 2, 3, 4, 5] (fun _ => [(q, .inr (4, [.ref a1, .ref a2, .ref a3, .ref a4, .ref a5, .int (nI n0), .int nc, .int (bI ne), .int 0])), (a1, .inl (T 0, 8, .inl (fun k => nI (yv k / 4)))), (a2, .inl (T 2, 8, .inl (fun k => bI (isE (yv k))))), (a3, .inl (T 2, 8, .inl (fun k => bI (isB (yv k))))), (a4, .inl (T 0, 60, .inl (fun k => nI (tw k / 4)))), (a5, .inl (T 2, 60, .inl (fun k => bI (isE (tw k)))))]) (by decide) (fun _ => rfl) (fun _ H locs hP hD hS => ?_)
  have hP : va_P D zcl [(q, .inr (4, [.ref a1, .ref a2, .ref a3, .ref a4, .ref a5, .int (nI n0), .int nc, .int (bI ne), .int 0])), (a1, .inl (T 0, 8, .inl (fun k => nI (yv k / 4)))), (a2, .inl (T 2, 8, .inl (fun k => bI (isE (yv k))))), (a3, .inl (T 2, 8, .inl (fun k => bI (isB (yv k))))), (a4, .inl (T 0, 60, .inl (fun k => nI (tw k / 4)))), (a5, .inl (T 2, 60, .inl (fun k => bI (isE (tw k)))))] H := hP
  have hD : va_D A [(q, .inr (4, [.ref a1, .ref a2, .ref a3, .ref a4, .ref a5, .int (nI n0), .int nc, .int (bI ne), .int 0])), (a1, .inl (T 0, 8, .inl (fun k => nI (yv k / 4)))), (a2, .inl (T 2, 8, .inl (fun k => bI (isE (yv k))))), (a3, .inl (T 2, 8, .inl (fun k => bI (isB (yv k))))), (a4, .inl (T 0, 60, .inl (fun k => nI (tw k / 4)))), (a5, .inl (T 2, 60, .inl (fun k => bI (isE (tw k)))))] := hD
  refine zb_eq (tgt := 20) hx hb dX8_whole_5 (by decide) (fun h1 => ?_) (fun h1 => ?_)
  · exact absurd h1 (by decide)
  · refine lv_aload_n hx hb dX8_whole_8 rfl (lv_at hl 0 rfl) ?_
    refine lv_iload_n hx hb dX8_whole_9 rfl (lv_at hl 1 rfl) ?_
    refine zh_v (T := T) hx hb hml hown hts k_X8_66 (c_X8_fineAt l D T q a1 a2 a3 a4 a5 yv tw n0 nc ne 0 p hp hy) ⟨by decide, by decide⟩ rfl hl.1 [] rfl (Nat.le_of_ble_eq_true rfl) dX8_whole_10 ⟨Nat.le_of_ble_eq_true rfl, Nat.le_of_ble_eq_true rfl⟩ hK hP hD hS hA (ci := 4) rfl rfl rfl [0, 1, 2, 3, 4, 5] [] (wr := []) rfl rfl (by decide) (by decide) (by decide) [0, 1, 2, 3, 4, 5] (fun _ => [(q, .inr (4, [.ref a1, .ref a2, .ref a3, .ref a4, .ref a5, .int (nI n0), .int nc, .int (bI ne), .int 0])), (a1, .inl (T 0, 8, .inl (fun k => nI (yv k / 4)))), (a2, .inl (T 2, 8, .inl (fun k => bI (isE (yv k))))), (a3, .inl (T 2, 8, .inl (fun k => bI (isB (yv k))))), (a4, .inl (T 0, 60, .inl (fun k => nI (tw k / 4)))), (a5, .inl (T 2, 60, .inl (fun k => bI (isE (tw k)))))]) (by decide) (fun _ => rfl) (fun _ H locs hP hD hS => ?_)
    have hP : va_P D zcl [(q, .inr (4, [.ref a1, .ref a2, .ref a3, .ref a4, .ref a5, .int (nI n0), .int nc, .int (bI ne), .int 0])), (a1, .inl (T 0, 8, .inl (fun k => nI (yv k / 4)))), (a2, .inl (T 2, 8, .inl (fun k => bI (isE (yv k))))), (a3, .inl (T 2, 8, .inl (fun k => bI (isB (yv k))))), (a4, .inl (T 0, 60, .inl (fun k => nI (tw k / 4)))), (a5, .inl (T 2, 60, .inl (fun k => bI (isE (tw k)))))] H := hP
    have hD : va_D A [(q, .inr (4, [.ref a1, .ref a2, .ref a3, .ref a4, .ref a5, .int (nI n0), .int nc, .int (bI ne), .int 0])), (a1, .inl (T 0, 8, .inl (fun k => nI (yv k / 4)))), (a2, .inl (T 2, 8, .inl (fun k => bI (isE (yv k))))), (a3, .inl (T 2, 8, .inl (fun k => bI (isB (yv k))))), (a4, .inl (T 0, 60, .inl (fun k => nI (tw k / 4)))), (a5, .inl (T 2, 60, .inl (fun k => bI (isE (tw k)))))] := hD
    refine lv_sipush (v := 1024) hx hb dX8_whole_13 (by decide) ?_
    refine lv_idiv hx hb dX8_whole_16 (by decide) ?_
    refine lv_goto (tgt := 21) hx hb dX8_whole_17 (by decide) ?_
    exact zh_iret () hx hb hr hlocks dX8_whole_21 hP hD hS (rfl) (rfl)
set_option maxRecDepth 20000 in
theorem c_X8_whole_no (l : Launch) (D : va_G) (T : Nat → ClassId) (q a1 a2 a3 a4 a5 : Nat) (yv tw : Nat → Nat) (n0 : Nat) (nc : Int32) (ne : Bool) (th : Int32) (x : Int32) (hx0 : m_X8_is x = false) : Hm l yX8_whole cX8_whole 2 (some FieldType.int) 3 0 0 D T [.ref q, .int x] [(q, .inr (4, [.ref a1, .ref a2, .ref a3, .ref a4, .ref a5, .int (nI n0), .int nc, .int (bI ne), .int th])), (a1, .inl (T 0, 8, .inl (fun k => nI (yv k / 4)))), (a2, .inl (T 2, 8, .inl (fun k => bI (isE (yv k))))), (a3, .inl (T 2, 8, .inl (fun k => bI (isB (yv k))))), (a4, .inl (T 0, 60, .inl (fun k => nI (tw k / 4)))), (a5, .inl (T 2, 60, .inl (fun k => bI (isE (tw k)))))] (some (.int 0)) (fun _ : Unit => [(q, .inr (4, [.ref a1, .ref a2, .ref a3, .ref a4, .ref a5, .int (nI n0), .int nc, .int (bI ne), .int 1])), (a1, .inl (T 0, 8, .inl (fun k => nI (yv k / 4)))), (a2, .inl (T 2, 8, .inl (fun k => bI (isE (yv k))))), (a3, .inl (T 2, 8, .inl (fun k => bI (isB (yv k))))), (a4, .inl (T 0, 60, .inl (fun k => nI (tw k / 4)))), (a5, .inl (T 2, 60, .inl (fun k => bI (isE (tw k)))))]) := by
  refine Hm.of (by decide) (Nat.le_of_ble_eq_true rfl) ?_
  intro zp ze s zm args below zmeth zc hx hb hr hml hown hin hts hlocks A hA hP hK hD hS ls hl
  have hl : lv_has ls 2 [(0, .ref q), (1, .int x)] := hl
  refine lv_aload_n hx hb dX8_whole_0 rfl (lv_at hl 0 rfl) ?_
  refine lv_iload_n hx hb dX8_whole_1 rfl (lv_at hl 1 rfl) ?_
  refine zh_v (T := T) hx hb hml hown hts k_X8_69 (c_X8_isPlace_no l D T q a1 a2 a3 a4 a5 yv tw n0 nc ne th x hx0) ⟨by decide, by decide⟩ rfl hl.1 [] rfl (Nat.le_of_ble_eq_true rfl) dX8_whole_2 ⟨Nat.le_of_ble_eq_true rfl, Nat.le_of_ble_eq_true rfl⟩ hK hP hD hS hA (ci := 4) rfl rfl rfl [0, 1, 2, 3, 4, 5] [] (wr := []) rfl rfl (by decide) (by decide) (by decide) [0, 1, 2, 3, 4, 5] (fun _ => [(q, .inr (4, [.ref a1, .ref a2, .ref a3, .ref a4, .ref a5, .int (nI n0), .int nc, .int (bI ne), .int 1])), (a1, .inl (T 0, 8, .inl (fun k => nI (yv k / 4)))), (a2, .inl (T 2, 8, .inl (fun k => bI (isE (yv k))))), (a3, .inl (T 2, 8, .inl (fun k => bI (isB (yv k))))), (a4, .inl (T 0, 60, .inl (fun k => nI (tw k / 4)))), (a5, .inl (T 2, 60, .inl (fun k => bI (isE (tw k)))))]) (by decide) (fun _ => rfl) (fun _ H locs hP hD hS => ?_)
  have hP : va_P D zcl [(q, .inr (4, [.ref a1, .ref a2, .ref a3, .ref a4, .ref a5, .int (nI n0), .int nc, .int (bI ne), .int 1])), (a1, .inl (T 0, 8, .inl (fun k => nI (yv k / 4)))), (a2, .inl (T 2, 8, .inl (fun k => bI (isE (yv k))))), (a3, .inl (T 2, 8, .inl (fun k => bI (isB (yv k))))), (a4, .inl (T 0, 60, .inl (fun k => nI (tw k / 4)))), (a5, .inl (T 2, 60, .inl (fun k => bI (isE (tw k)))))] H := hP
  have hD : va_D A [(q, .inr (4, [.ref a1, .ref a2, .ref a3, .ref a4, .ref a5, .int (nI n0), .int nc, .int (bI ne), .int 1])), (a1, .inl (T 0, 8, .inl (fun k => nI (yv k / 4)))), (a2, .inl (T 2, 8, .inl (fun k => bI (isE (yv k))))), (a3, .inl (T 2, 8, .inl (fun k => bI (isB (yv k))))), (a4, .inl (T 0, 60, .inl (fun k => nI (tw k / 4)))), (a5, .inl (T 2, 60, .inl (fun k => bI (isE (tw k)))))] := hD
  refine zb_eq (tgt := 20) hx hb dX8_whole_5 (by decide) (fun h1 => ?_) (fun h1 => ?_)
  · refine lv_iconst (v := 0) hx hb dX8_whole_20 (by decide) ?_
    exact zh_iret () hx hb hr hlocks dX8_whole_21 hP hD hS (rfl) (rfl)
  · exact absurd h1 (by decide)
set_option maxRecDepth 20000 in
theorem c_X8_isExact_ok (l : Launch) (D : va_G) (T : Nat → ClassId) (q a1 a2 a3 a4 a5 : Nat) (yv tw : Nat → Nat) (n0 : Nat) (nc : Int32) (ne : Bool) (th : Int32) (p : Nat) (hp : p < 8) (hy : ∀ k, yv k < 262144) : Hm l yX8_isExact cX8_isExact 2 (some FieldType.boolean) 2 0 0 D T [.ref q, .int (nI p)] [(q, .inr (4, [.ref a1, .ref a2, .ref a3, .ref a4, .ref a5, .int (nI n0), .int nc, .int (bI ne), .int th])), (a1, .inl (T 0, 8, .inl (fun k => nI (yv k / 4)))), (a2, .inl (T 2, 8, .inl (fun k => bI (isE (yv k))))), (a3, .inl (T 2, 8, .inl (fun k => bI (isB (yv k))))), (a4, .inl (T 0, 60, .inl (fun k => nI (tw k / 4)))), (a5, .inl (T 2, 60, .inl (fun k => bI (isE (tw k)))))] (some (.int (bI (exB (eig (yv p)))))) (fun _ : Unit => [(q, .inr (4, [.ref a1, .ref a2, .ref a3, .ref a4, .ref a5, .int (nI n0), .int nc, .int (bI ne), .int 0])), (a1, .inl (T 0, 8, .inl (fun k => nI (yv k / 4)))), (a2, .inl (T 2, 8, .inl (fun k => bI (isE (yv k))))), (a3, .inl (T 2, 8, .inl (fun k => bI (isB (yv k))))), (a4, .inl (T 0, 60, .inl (fun k => nI (tw k / 4)))), (a5, .inl (T 2, 60, .inl (fun k => bI (isE (tw k)))))]) := by
  refine Hm.of (by decide) (Nat.le_of_ble_eq_true rfl) ?_
  intro zp ze s zm args below zmeth zc hx hb hr hml hown hin hts hlocks A hA hP hK hD hS ls hl
  have hl : lv_has ls 2 [(0, .ref q), (1, .int (nI p))] := hl
  refine lv_aload_n hx hb dX8_isExact_0 rfl (lv_at hl 0 rfl) ?_
  refine lv_iload_n hx hb dX8_isExact_1 rfl (lv_at hl 1 rfl) ?_
  refine zh_v (T := T) hx hb hml hown hts k_X8_69 (c_X8_isPlace_ok l D T q a1 a2 a3 a4 a5 yv tw n0 nc ne th p hp) ⟨by decide, by decide⟩ rfl hl.1 [] rfl (Nat.le_of_ble_eq_true rfl) dX8_isExact_2 ⟨Nat.le_of_ble_eq_true rfl, Nat.le_of_ble_eq_true rfl⟩ hK hP hD hS hA (ci := 4) rfl rfl rfl [0, 1, 2, 3, 4, 5] [] (wr := []) rfl rfl (by decide) (by decide) (by decide) [0, 1, 2, 3, 4, 5] (fun _ => [(q, .inr (4, [.ref a1, .ref a2, .ref a3, .ref a4, .ref a5, .int (nI n0), .int nc, .int (bI ne), .int 0])), (a1, .inl (T 0, 8, .inl (fun k => nI (yv k / 4)))), (a2, .inl (T 2, 8, .inl (fun k => bI (isE (yv k))))), (a3, .inl (T 2, 8, .inl (fun k => bI (isB (yv k))))), (a4, .inl (T 0, 60, .inl (fun k => nI (tw k / 4)))), (a5, .inl (T 2, 60, .inl (fun k => bI (isE (tw k)))))]) (by decide) (fun _ => rfl) (fun _ H locs hP hD hS => ?_)
  have hP : va_P D zcl [(q, .inr (4, [.ref a1, .ref a2, .ref a3, .ref a4, .ref a5, .int (nI n0), .int nc, .int (bI ne), .int 0])), (a1, .inl (T 0, 8, .inl (fun k => nI (yv k / 4)))), (a2, .inl (T 2, 8, .inl (fun k => bI (isE (yv k))))), (a3, .inl (T 2, 8, .inl (fun k => bI (isB (yv k))))), (a4, .inl (T 0, 60, .inl (fun k => nI (tw k / 4)))), (a5, .inl (T 2, 60, .inl (fun k => bI (isE (tw k)))))] H := hP
  have hD : va_D A [(q, .inr (4, [.ref a1, .ref a2, .ref a3, .ref a4, .ref a5, .int (nI n0), .int nc, .int (bI ne), .int 0])), (a1, .inl (T 0, 8, .inl (fun k => nI (yv k / 4)))), (a2, .inl (T 2, 8, .inl (fun k => bI (isE (yv k))))), (a3, .inl (T 2, 8, .inl (fun k => bI (isB (yv k))))), (a4, .inl (T 0, 60, .inl (fun k => nI (tw k / 4)))), (a5, .inl (T 2, 60, .inl (fun k => bI (isE (tw k)))))] := hD
  refine zb_eq (tgt := 23) hx hb dX8_isExact_5 (by decide) (fun h1 => ?_) (fun h1 => ?_)
  · exact absurd h1 (by decide)
  · refine lv_aload_n hx hb dX8_isExact_8 rfl (lv_at hl 0 rfl) ?_
    refine lv_iload_n hx hb dX8_isExact_9 rfl (lv_at hl 1 rfl) ?_
    refine zh_v (T := T) hx hb hml hown hts k_X8_39 (c_X8_size l D T q a1 a2 a3 a4 a5 yv tw n0 nc ne 0 p hp) ⟨by decide, by decide⟩ rfl hl.1 [] rfl (Nat.le_of_ble_eq_true rfl) dX8_isExact_10 ⟨Nat.le_of_ble_eq_true rfl, Nat.le_of_ble_eq_true rfl⟩ hK hP hD hS hA (ci := 4) rfl rfl rfl [0, 1, 2, 3, 4, 5] [] (wr := []) rfl rfl (by decide) (by decide) (by decide) [0, 1, 2, 3, 4, 5] (fun _ => [(q, .inr (4, [.ref a1, .ref a2, .ref a3, .ref a4, .ref a5, .int (nI n0), .int nc, .int (bI ne), .int 0])), (a1, .inl (T 0, 8, .inl (fun k => nI (yv k / 4)))), (a2, .inl (T 2, 8, .inl (fun k => bI (isE (yv k))))), (a3, .inl (T 2, 8, .inl (fun k => bI (isB (yv k))))), (a4, .inl (T 0, 60, .inl (fun k => nI (tw k / 4)))), (a5, .inl (T 2, 60, .inl (fun k => bI (isE (tw k)))))]) (by decide) (fun _ => rfl) (fun _ H locs hP hD hS => ?_)
    have hP : va_P D zcl [(q, .inr (4, [.ref a1, .ref a2, .ref a3, .ref a4, .ref a5, .int (nI n0), .int nc, .int (bI ne), .int 0])), (a1, .inl (T 0, 8, .inl (fun k => nI (yv k / 4)))), (a2, .inl (T 2, 8, .inl (fun k => bI (isE (yv k))))), (a3, .inl (T 2, 8, .inl (fun k => bI (isB (yv k))))), (a4, .inl (T 0, 60, .inl (fun k => nI (tw k / 4)))), (a5, .inl (T 2, 60, .inl (fun k => bI (isE (tw k)))))] H := hP
    have hD : va_D A [(q, .inr (4, [.ref a1, .ref a2, .ref a3, .ref a4, .ref a5, .int (nI n0), .int nc, .int (bI ne), .int 0])), (a1, .inl (T 0, 8, .inl (fun k => nI (yv k / 4)))), (a2, .inl (T 2, 8, .inl (fun k => bI (isE (yv k))))), (a3, .inl (T 2, 8, .inl (fun k => bI (isB (yv k))))), (a4, .inl (T 0, 60, .inl (fun k => nI (tw k / 4)))), (a5, .inl (T 2, 60, .inl (fun k => bI (isE (tw k)))))] := hD
    refine zp_call hx hb hml hown hts k_X8_77 (c_X8_halves l (eig (yv p)) (eig20 (hy p))) ⟨by decide, by decide⟩ rfl hl.1 [] rfl (Nat.le_of_ble_eq_true rfl) dX8_isExact_13 ⟨Nat.le_of_ble_eq_true rfl, Nat.le_of_ble_eq_true rfl⟩ ?_
    refine lv_if_lt (tgt := 23) hx hb dX8_isExact_16 (by decide) (fun h2 => ?_) (fun h2 => ?_)
    · refine lv_iconst (v := 0) hx hb dX8_isExact_23 (by decide) ?_
      exact zh_zret () hx hb hr hlocks dX8_isExact_24 hP hD hS ((zifB_pos h2 rfl)) (rfl)
    · refine lv_iconst (v := 1) hx hb dX8_isExact_19 (by decide) ?_
      refine lv_goto (tgt := 24) hx hb dX8_isExact_20 (by decide) ?_
      exact zh_zret () hx hb hr hlocks dX8_isExact_24 hP hD hS ((zifB_neg h2 rfl)) (rfl)
set_option maxRecDepth 20000 in
theorem c_X8_isExact_no (l : Launch) (D : va_G) (T : Nat → ClassId) (q a1 a2 a3 a4 a5 : Nat) (yv tw : Nat → Nat) (n0 : Nat) (nc : Int32) (ne : Bool) (th : Int32) (x : Int32) (hx0 : m_X8_is x = false) : Hm l yX8_isExact cX8_isExact 2 (some FieldType.boolean) 2 0 0 D T [.ref q, .int x] [(q, .inr (4, [.ref a1, .ref a2, .ref a3, .ref a4, .ref a5, .int (nI n0), .int nc, .int (bI ne), .int th])), (a1, .inl (T 0, 8, .inl (fun k => nI (yv k / 4)))), (a2, .inl (T 2, 8, .inl (fun k => bI (isE (yv k))))), (a3, .inl (T 2, 8, .inl (fun k => bI (isB (yv k))))), (a4, .inl (T 0, 60, .inl (fun k => nI (tw k / 4)))), (a5, .inl (T 2, 60, .inl (fun k => bI (isE (tw k)))))] (some (.int (bI false))) (fun _ : Unit => [(q, .inr (4, [.ref a1, .ref a2, .ref a3, .ref a4, .ref a5, .int (nI n0), .int nc, .int (bI ne), .int 1])), (a1, .inl (T 0, 8, .inl (fun k => nI (yv k / 4)))), (a2, .inl (T 2, 8, .inl (fun k => bI (isE (yv k))))), (a3, .inl (T 2, 8, .inl (fun k => bI (isB (yv k))))), (a4, .inl (T 0, 60, .inl (fun k => nI (tw k / 4)))), (a5, .inl (T 2, 60, .inl (fun k => bI (isE (tw k)))))]) := by
  refine Hm.of (by decide) (Nat.le_of_ble_eq_true rfl) ?_
  intro zp ze s zm args below zmeth zc hx hb hr hml hown hin hts hlocks A hA hP hK hD hS ls hl
  have hl : lv_has ls 2 [(0, .ref q), (1, .int x)] := hl
  refine lv_aload_n hx hb dX8_isExact_0 rfl (lv_at hl 0 rfl) ?_
  refine lv_iload_n hx hb dX8_isExact_1 rfl (lv_at hl 1 rfl) ?_
  refine zh_v (T := T) hx hb hml hown hts k_X8_69 (c_X8_isPlace_no l D T q a1 a2 a3 a4 a5 yv tw n0 nc ne th x hx0) ⟨by decide, by decide⟩ rfl hl.1 [] rfl (Nat.le_of_ble_eq_true rfl) dX8_isExact_2 ⟨Nat.le_of_ble_eq_true rfl, Nat.le_of_ble_eq_true rfl⟩ hK hP hD hS hA (ci := 4) rfl rfl rfl [0, 1, 2, 3, 4, 5] [] (wr := []) rfl rfl (by decide) (by decide) (by decide) [0, 1, 2, 3, 4, 5] (fun _ => [(q, .inr (4, [.ref a1, .ref a2, .ref a3, .ref a4, .ref a5, .int (nI n0), .int nc, .int (bI ne), .int 1])), (a1, .inl (T 0, 8, .inl (fun k => nI (yv k / 4)))), (a2, .inl (T 2, 8, .inl (fun k => bI (isE (yv k))))), (a3, .inl (T 2, 8, .inl (fun k => bI (isB (yv k))))), (a4, .inl (T 0, 60, .inl (fun k => nI (tw k / 4)))), (a5, .inl (T 2, 60, .inl (fun k => bI (isE (tw k)))))]) (by decide) (fun _ => rfl) (fun _ H locs hP hD hS => ?_)
  have hP : va_P D zcl [(q, .inr (4, [.ref a1, .ref a2, .ref a3, .ref a4, .ref a5, .int (nI n0), .int nc, .int (bI ne), .int 1])), (a1, .inl (T 0, 8, .inl (fun k => nI (yv k / 4)))), (a2, .inl (T 2, 8, .inl (fun k => bI (isE (yv k))))), (a3, .inl (T 2, 8, .inl (fun k => bI (isB (yv k))))), (a4, .inl (T 0, 60, .inl (fun k => nI (tw k / 4)))), (a5, .inl (T 2, 60, .inl (fun k => bI (isE (tw k)))))] H := hP
  have hD : va_D A [(q, .inr (4, [.ref a1, .ref a2, .ref a3, .ref a4, .ref a5, .int (nI n0), .int nc, .int (bI ne), .int 1])), (a1, .inl (T 0, 8, .inl (fun k => nI (yv k / 4)))), (a2, .inl (T 2, 8, .inl (fun k => bI (isE (yv k))))), (a3, .inl (T 2, 8, .inl (fun k => bI (isB (yv k))))), (a4, .inl (T 0, 60, .inl (fun k => nI (tw k / 4)))), (a5, .inl (T 2, 60, .inl (fun k => bI (isE (tw k)))))] := hD
  refine zb_eq (tgt := 23) hx hb dX8_isExact_5 (by decide) (fun h1 => ?_) (fun h1 => ?_)
  · refine lv_iconst (v := 0) hx hb dX8_isExact_23 (by decide) ?_
    exact zh_zret () hx hb hr hlocks dX8_isExact_24 hP hD hS (rfl) (rfl)
  · exact absurd h1 (by decide)
set_option maxRecDepth 20000 in
theorem c_X8_order_ok (l : Launch) (D : va_G) (T : Nat → ClassId) (q a1 a2 a3 a4 a5 : Nat) (yv tw : Nat → Nat) (n0 : Nat) (nc : Int32) (ne : Bool) (th : Int32) (p : Nat) (hp : p < 8) (p2 : Nat) (hp2 : p2 < 8) : Hm l yX8_order cX8_order 3 (some FieldType.int) 3 0 0 D T [.ref q, .int (nI p), .int (nI p2)] [(q, .inr (4, [.ref a1, .ref a2, .ref a3, .ref a4, .ref a5, .int (nI n0), .int nc, .int (bI ne), .int th])), (a1, .inl (T 0, 8, .inl (fun k => nI (yv k / 4)))), (a2, .inl (T 2, 8, .inl (fun k => bI (isE (yv k))))), (a3, .inl (T 2, 8, .inl (fun k => bI (isB (yv k))))), (a4, .inl (T 0, 60, .inl (fun k => nI (tw k / 4)))), (a5, .inl (T 2, 60, .inl (fun k => bI (isE (tw k)))))] (some (.int (ordI (yv p) (yv p2)))) (fun _ : Unit => [(q, .inr (4, [.ref a1, .ref a2, .ref a3, .ref a4, .ref a5, .int (nI n0), .int nc, .int (bI ne), .int 0])), (a1, .inl (T 0, 8, .inl (fun k => nI (yv k / 4)))), (a2, .inl (T 2, 8, .inl (fun k => bI (isE (yv k))))), (a3, .inl (T 2, 8, .inl (fun k => bI (isB (yv k))))), (a4, .inl (T 0, 60, .inl (fun k => nI (tw k / 4)))), (a5, .inl (T 2, 60, .inl (fun k => bI (isE (tw k)))))]) := by
  refine Hm.of (by decide) (Nat.le_of_ble_eq_true rfl) ?_
  intro zp ze s zm args below zmeth zc hx hb hr hml hown hin hts hlocks A hA hP hK hD hS ls hl
  have hl : lv_has ls 3 [(0, .ref q), (1, .int (nI p)), (2, .int (nI p2))] := hl
  refine lv_aload_n hx hb dX8_order_0 rfl (lv_at hl 0 rfl) ?_
  refine lv_iload_n hx hb dX8_order_1 rfl (lv_at hl 1 rfl) ?_
  refine lv_iload_n hx hb dX8_order_2 rfl (lv_at hl 2 rfl) ?_
  refine zh_v (T := T) hx hb hml hown hts k_X8_84 (c_X8_arePlaces_ok l D T q a1 a2 a3 a4 a5 yv tw n0 nc ne th p hp p2 hp2) ⟨by decide, by decide⟩ rfl hl.1 [] rfl (Nat.le_of_ble_eq_true rfl) dX8_order_3 ⟨Nat.le_of_ble_eq_true rfl, Nat.le_of_ble_eq_true rfl⟩ hK hP hD hS hA (ci := 4) rfl rfl rfl [0, 1, 2, 3, 4, 5] [] (wr := []) rfl rfl (by decide) (by decide) (by decide) [0, 1, 2, 3, 4, 5] (fun _ => [(q, .inr (4, [.ref a1, .ref a2, .ref a3, .ref a4, .ref a5, .int (nI n0), .int nc, .int (bI ne), .int 0])), (a1, .inl (T 0, 8, .inl (fun k => nI (yv k / 4)))), (a2, .inl (T 2, 8, .inl (fun k => bI (isE (yv k))))), (a3, .inl (T 2, 8, .inl (fun k => bI (isB (yv k))))), (a4, .inl (T 0, 60, .inl (fun k => nI (tw k / 4)))), (a5, .inl (T 2, 60, .inl (fun k => bI (isE (tw k)))))]) (by decide) (fun _ => rfl) (fun _ H locs hP hD hS => ?_)
  have hP : va_P D zcl [(q, .inr (4, [.ref a1, .ref a2, .ref a3, .ref a4, .ref a5, .int (nI n0), .int nc, .int (bI ne), .int 0])), (a1, .inl (T 0, 8, .inl (fun k => nI (yv k / 4)))), (a2, .inl (T 2, 8, .inl (fun k => bI (isE (yv k))))), (a3, .inl (T 2, 8, .inl (fun k => bI (isB (yv k))))), (a4, .inl (T 0, 60, .inl (fun k => nI (tw k / 4)))), (a5, .inl (T 2, 60, .inl (fun k => bI (isE (tw k)))))] H := hP
  have hD : va_D A [(q, .inr (4, [.ref a1, .ref a2, .ref a3, .ref a4, .ref a5, .int (nI n0), .int nc, .int (bI ne), .int 0])), (a1, .inl (T 0, 8, .inl (fun k => nI (yv k / 4)))), (a2, .inl (T 2, 8, .inl (fun k => bI (isE (yv k))))), (a3, .inl (T 2, 8, .inl (fun k => bI (isB (yv k))))), (a4, .inl (T 0, 60, .inl (fun k => nI (tw k / 4)))), (a5, .inl (T 2, 60, .inl (fun k => bI (isE (tw k)))))] := hD
  refine zb_ne (tgt := 11) hx hb dX8_order_6 (by decide) (fun h1 => ?_) (fun h1 => ?_)
  · refine lv_aload_n hx hb dX8_order_11 rfl (lv_at hl 0 rfl) ?_
    refine lv_iload_n hx hb dX8_order_12 rfl (lv_at hl 1 rfl) ?_
    refine zh_v (T := T) hx hb hml hown hts k_X8_72 (c_X8_signed l D T q a1 a2 a3 a4 a5 yv tw n0 nc ne 0 p hp) ⟨by decide, by decide⟩ rfl hl.1 [] rfl (Nat.le_of_ble_eq_true rfl) dX8_order_13 ⟨Nat.le_of_ble_eq_true rfl, Nat.le_of_ble_eq_true rfl⟩ hK hP hD hS hA (ci := 4) rfl rfl rfl [0, 1, 2, 3, 4, 5] [] (wr := []) rfl rfl (by decide) (by decide) (by decide) [0, 1, 2, 3, 4, 5] (fun _ => [(q, .inr (4, [.ref a1, .ref a2, .ref a3, .ref a4, .ref a5, .int (nI n0), .int nc, .int (bI ne), .int 0])), (a1, .inl (T 0, 8, .inl (fun k => nI (yv k / 4)))), (a2, .inl (T 2, 8, .inl (fun k => bI (isE (yv k))))), (a3, .inl (T 2, 8, .inl (fun k => bI (isB (yv k))))), (a4, .inl (T 0, 60, .inl (fun k => nI (tw k / 4)))), (a5, .inl (T 2, 60, .inl (fun k => bI (isE (tw k)))))]) (by decide) (fun _ => rfl) (fun _ H locs hP hD hS => ?_)
    have hP : va_P D zcl [(q, .inr (4, [.ref a1, .ref a2, .ref a3, .ref a4, .ref a5, .int (nI n0), .int nc, .int (bI ne), .int 0])), (a1, .inl (T 0, 8, .inl (fun k => nI (yv k / 4)))), (a2, .inl (T 2, 8, .inl (fun k => bI (isE (yv k))))), (a3, .inl (T 2, 8, .inl (fun k => bI (isB (yv k))))), (a4, .inl (T 0, 60, .inl (fun k => nI (tw k / 4)))), (a5, .inl (T 2, 60, .inl (fun k => bI (isE (tw k)))))] H := hP
    have hD : va_D A [(q, .inr (4, [.ref a1, .ref a2, .ref a3, .ref a4, .ref a5, .int (nI n0), .int nc, .int (bI ne), .int 0])), (a1, .inl (T 0, 8, .inl (fun k => nI (yv k / 4)))), (a2, .inl (T 2, 8, .inl (fun k => bI (isE (yv k))))), (a3, .inl (T 2, 8, .inl (fun k => bI (isB (yv k))))), (a4, .inl (T 0, 60, .inl (fun k => nI (tw k / 4)))), (a5, .inl (T 2, 60, .inl (fun k => bI (isE (tw k)))))] := hD
    refine lv_aload_n hx hb dX8_order_16 rfl (lv_at hl 0 rfl) ?_
    refine lv_iload_n hx hb dX8_order_17 rfl (lv_at hl 2 rfl) ?_
    refine zh_v (T := T) hx hb hml hown hts k_X8_72 (c_X8_signed l D T q a1 a2 a3 a4 a5 yv tw n0 nc ne 0 p2 hp2) ⟨by decide, by decide⟩ rfl hl.1 [.int (sgI (yv p))] rfl (Nat.le_of_ble_eq_true rfl) dX8_order_18 ⟨Nat.le_of_ble_eq_true rfl, Nat.le_of_ble_eq_true rfl⟩ hK hP hD hS hA (ci := 4) rfl rfl rfl [0, 1, 2, 3, 4, 5] [] (wr := []) rfl rfl (by decide) (by decide) (by decide) [0, 1, 2, 3, 4, 5] (fun _ => [(q, .inr (4, [.ref a1, .ref a2, .ref a3, .ref a4, .ref a5, .int (nI n0), .int nc, .int (bI ne), .int 0])), (a1, .inl (T 0, 8, .inl (fun k => nI (yv k / 4)))), (a2, .inl (T 2, 8, .inl (fun k => bI (isE (yv k))))), (a3, .inl (T 2, 8, .inl (fun k => bI (isB (yv k))))), (a4, .inl (T 0, 60, .inl (fun k => nI (tw k / 4)))), (a5, .inl (T 2, 60, .inl (fun k => bI (isE (tw k)))))]) (by decide) (fun _ => rfl) (fun _ H locs hP hD hS => ?_)
    have hP : va_P D zcl [(q, .inr (4, [.ref a1, .ref a2, .ref a3, .ref a4, .ref a5, .int (nI n0), .int nc, .int (bI ne), .int 0])), (a1, .inl (T 0, 8, .inl (fun k => nI (yv k / 4)))), (a2, .inl (T 2, 8, .inl (fun k => bI (isE (yv k))))), (a3, .inl (T 2, 8, .inl (fun k => bI (isB (yv k))))), (a4, .inl (T 0, 60, .inl (fun k => nI (tw k / 4)))), (a5, .inl (T 2, 60, .inl (fun k => bI (isE (tw k)))))] H := hP
    have hD : va_D A [(q, .inr (4, [.ref a1, .ref a2, .ref a3, .ref a4, .ref a5, .int (nI n0), .int nc, .int (bI ne), .int 0])), (a1, .inl (T 0, 8, .inl (fun k => nI (yv k / 4)))), (a2, .inl (T 2, 8, .inl (fun k => bI (isE (yv k))))), (a3, .inl (T 2, 8, .inl (fun k => bI (isB (yv k))))), (a4, .inl (T 0, 60, .inl (fun k => nI (tw k / 4)))), (a5, .inl (T 2, 60, .inl (fun k => bI (isE (tw k)))))] := hD
    refine lv_icmp_ge (tgt := 28) hx hb dX8_order_21 (by decide) (fun h2 => ?_) (fun h2 => ?_)
    · refine lv_aload_n hx hb dX8_order_28 rfl (lv_at hl 0 rfl) ?_
      refine lv_iload_n hx hb dX8_order_29 rfl (lv_at hl 1 rfl) ?_
      refine zh_v (T := T) hx hb hml hown hts k_X8_72 (c_X8_signed l D T q a1 a2 a3 a4 a5 yv tw n0 nc ne 0 p hp) ⟨by decide, by decide⟩ rfl hl.1 [] rfl (Nat.le_of_ble_eq_true rfl) dX8_order_30 ⟨Nat.le_of_ble_eq_true rfl, Nat.le_of_ble_eq_true rfl⟩ hK hP hD hS hA (ci := 4) rfl rfl rfl [0, 1, 2, 3, 4, 5] [] (wr := []) rfl rfl (by decide) (by decide) (by decide) [0, 1, 2, 3, 4, 5] (fun _ => [(q, .inr (4, [.ref a1, .ref a2, .ref a3, .ref a4, .ref a5, .int (nI n0), .int nc, .int (bI ne), .int 0])), (a1, .inl (T 0, 8, .inl (fun k => nI (yv k / 4)))), (a2, .inl (T 2, 8, .inl (fun k => bI (isE (yv k))))), (a3, .inl (T 2, 8, .inl (fun k => bI (isB (yv k))))), (a4, .inl (T 0, 60, .inl (fun k => nI (tw k / 4)))), (a5, .inl (T 2, 60, .inl (fun k => bI (isE (tw k)))))]) (by decide) (fun _ => rfl) (fun _ H locs hP hD hS => ?_)
      have hP : va_P D zcl [(q, .inr (4, [.ref a1, .ref a2, .ref a3, .ref a4, .ref a5, .int (nI n0), .int nc, .int (bI ne), .int 0])), (a1, .inl (T 0, 8, .inl (fun k => nI (yv k / 4)))), (a2, .inl (T 2, 8, .inl (fun k => bI (isE (yv k))))), (a3, .inl (T 2, 8, .inl (fun k => bI (isB (yv k))))), (a4, .inl (T 0, 60, .inl (fun k => nI (tw k / 4)))), (a5, .inl (T 2, 60, .inl (fun k => bI (isE (tw k)))))] H := hP
      have hD : va_D A [(q, .inr (4, [.ref a1, .ref a2, .ref a3, .ref a4, .ref a5, .int (nI n0), .int nc, .int (bI ne), .int 0])), (a1, .inl (T 0, 8, .inl (fun k => nI (yv k / 4)))), (a2, .inl (T 2, 8, .inl (fun k => bI (isE (yv k))))), (a3, .inl (T 2, 8, .inl (fun k => bI (isB (yv k))))), (a4, .inl (T 0, 60, .inl (fun k => nI (tw k / 4)))), (a5, .inl (T 2, 60, .inl (fun k => bI (isE (tw k)))))] := hD
      refine lv_aload_n hx hb dX8_order_33 rfl (lv_at hl 0 rfl) ?_
      refine lv_iload_n hx hb dX8_order_34 rfl (lv_at hl 2 rfl) ?_
      refine zh_v (T := T) hx hb hml hown hts k_X8_72 (c_X8_signed l D T q a1 a2 a3 a4 a5 yv tw n0 nc ne 0 p2 hp2) ⟨by decide, by decide⟩ rfl hl.1 [.int (sgI (yv p))] rfl (Nat.le_of_ble_eq_true rfl) dX8_order_35 ⟨Nat.le_of_ble_eq_true rfl, Nat.le_of_ble_eq_true rfl⟩ hK hP hD hS hA (ci := 4) rfl rfl rfl [0, 1, 2, 3, 4, 5] [] (wr := []) rfl rfl (by decide) (by decide) (by decide) [0, 1, 2, 3, 4, 5] (fun _ => [(q, .inr (4, [.ref a1, .ref a2, .ref a3, .ref a4, .ref a5, .int (nI n0), .int nc, .int (bI ne), .int 0])), (a1, .inl (T 0, 8, .inl (fun k => nI (yv k / 4)))), (a2, .inl (T 2, 8, .inl (fun k => bI (isE (yv k))))), (a3, .inl (T 2, 8, .inl (fun k => bI (isB (yv k))))), (a4, .inl (T 0, 60, .inl (fun k => nI (tw k / 4)))), (a5, .inl (T 2, 60, .inl (fun k => bI (isE (tw k)))))]) (by decide) (fun _ => rfl) (fun _ H locs hP hD hS => ?_)
      have hP : va_P D zcl [(q, .inr (4, [.ref a1, .ref a2, .ref a3, .ref a4, .ref a5, .int (nI n0), .int nc, .int (bI ne), .int 0])), (a1, .inl (T 0, 8, .inl (fun k => nI (yv k / 4)))), (a2, .inl (T 2, 8, .inl (fun k => bI (isE (yv k))))), (a3, .inl (T 2, 8, .inl (fun k => bI (isB (yv k))))), (a4, .inl (T 0, 60, .inl (fun k => nI (tw k / 4)))), (a5, .inl (T 2, 60, .inl (fun k => bI (isE (tw k)))))] H := hP
      have hD : va_D A [(q, .inr (4, [.ref a1, .ref a2, .ref a3, .ref a4, .ref a5, .int (nI n0), .int nc, .int (bI ne), .int 0])), (a1, .inl (T 0, 8, .inl (fun k => nI (yv k / 4)))), (a2, .inl (T 2, 8, .inl (fun k => bI (isE (yv k))))), (a3, .inl (T 2, 8, .inl (fun k => bI (isB (yv k))))), (a4, .inl (T 0, 60, .inl (fun k => nI (tw k / 4)))), (a5, .inl (T 2, 60, .inl (fun k => bI (isE (tw k)))))] := hD
      refine lv_icmp_le (tgt := 45) hx hb dX8_order_38 (by decide) (fun h3 => ?_) (fun h3 => ?_)
      · refine lv_iconst (v := 0) hx hb dX8_order_45 (by decide) ?_
        exact zh_iret () hx hb hr hlocks dX8_order_46 hP hD hS ((zif_pos h2 (zif_pos h3 rfl))) (rfl)
      · refine lv_iconst (v := 1) hx hb dX8_order_41 (by decide) ?_
        refine lv_goto (tgt := 46) hx hb dX8_order_42 (by decide) ?_
        exact zh_iret () hx hb hr hlocks dX8_order_46 hP hD hS ((zif_pos h2 (zif_neg h3 rfl))) (rfl)
    · refine lv_iconst (v := (-1)) hx hb dX8_order_24 (by decide) ?_
      refine lv_goto (tgt := 46) hx hb dX8_order_25 (by decide) ?_
      exact zh_iret () hx hb hr hlocks dX8_order_46 hP hD hS ((zif_neg h2 rfl)) (rfl)
  · exact absurd h1 (by decide)
set_option maxRecDepth 20000 in
theorem c_X8_order_no (l : Launch) (D : va_G) (T : Nat → ClassId) (q a1 a2 a3 a4 a5 : Nat) (yv tw : Nat → Nat) (n0 : Nat) (nc : Int32) (ne : Bool) (th : Int32) (x y : Int32) (hx0 : (m_X8_is x && m_X8_is y) = false) : Hm l yX8_order cX8_order 3 (some FieldType.int) 3 0 0 D T [.ref q, .int x, .int y] [(q, .inr (4, [.ref a1, .ref a2, .ref a3, .ref a4, .ref a5, .int (nI n0), .int nc, .int (bI ne), .int th])), (a1, .inl (T 0, 8, .inl (fun k => nI (yv k / 4)))), (a2, .inl (T 2, 8, .inl (fun k => bI (isE (yv k))))), (a3, .inl (T 2, 8, .inl (fun k => bI (isB (yv k))))), (a4, .inl (T 0, 60, .inl (fun k => nI (tw k / 4)))), (a5, .inl (T 2, 60, .inl (fun k => bI (isE (tw k)))))] (some (.int 0)) (fun _ : Unit => [(q, .inr (4, [.ref a1, .ref a2, .ref a3, .ref a4, .ref a5, .int (nI n0), .int nc, .int (bI ne), .int 1])), (a1, .inl (T 0, 8, .inl (fun k => nI (yv k / 4)))), (a2, .inl (T 2, 8, .inl (fun k => bI (isE (yv k))))), (a3, .inl (T 2, 8, .inl (fun k => bI (isB (yv k))))), (a4, .inl (T 0, 60, .inl (fun k => nI (tw k / 4)))), (a5, .inl (T 2, 60, .inl (fun k => bI (isE (tw k)))))]) := by
  refine Hm.of (by decide) (Nat.le_of_ble_eq_true rfl) ?_
  intro zp ze s zm args below zmeth zc hx hb hr hml hown hin hts hlocks A hA hP hK hD hS ls hl
  have hl : lv_has ls 3 [(0, .ref q), (1, .int x), (2, .int y)] := hl
  refine lv_aload_n hx hb dX8_order_0 rfl (lv_at hl 0 rfl) ?_
  refine lv_iload_n hx hb dX8_order_1 rfl (lv_at hl 1 rfl) ?_
  refine lv_iload_n hx hb dX8_order_2 rfl (lv_at hl 2 rfl) ?_
  refine zh_v (T := T) hx hb hml hown hts k_X8_84 (c_X8_arePlaces_no l D T q a1 a2 a3 a4 a5 yv tw n0 nc ne th x y hx0) ⟨by decide, by decide⟩ rfl hl.1 [] rfl (Nat.le_of_ble_eq_true rfl) dX8_order_3 ⟨Nat.le_of_ble_eq_true rfl, Nat.le_of_ble_eq_true rfl⟩ hK hP hD hS hA (ci := 4) rfl rfl rfl [0, 1, 2, 3, 4, 5] [] (wr := []) rfl rfl (by decide) (by decide) (by decide) [0, 1, 2, 3, 4, 5] (fun _ => [(q, .inr (4, [.ref a1, .ref a2, .ref a3, .ref a4, .ref a5, .int (nI n0), .int nc, .int (bI ne), .int 1])), (a1, .inl (T 0, 8, .inl (fun k => nI (yv k / 4)))), (a2, .inl (T 2, 8, .inl (fun k => bI (isE (yv k))))), (a3, .inl (T 2, 8, .inl (fun k => bI (isB (yv k))))), (a4, .inl (T 0, 60, .inl (fun k => nI (tw k / 4)))), (a5, .inl (T 2, 60, .inl (fun k => bI (isE (tw k)))))]) (by decide) (fun _ => rfl) (fun _ H locs hP hD hS => ?_)
  have hP : va_P D zcl [(q, .inr (4, [.ref a1, .ref a2, .ref a3, .ref a4, .ref a5, .int (nI n0), .int nc, .int (bI ne), .int 1])), (a1, .inl (T 0, 8, .inl (fun k => nI (yv k / 4)))), (a2, .inl (T 2, 8, .inl (fun k => bI (isE (yv k))))), (a3, .inl (T 2, 8, .inl (fun k => bI (isB (yv k))))), (a4, .inl (T 0, 60, .inl (fun k => nI (tw k / 4)))), (a5, .inl (T 2, 60, .inl (fun k => bI (isE (tw k)))))] H := hP
  have hD : va_D A [(q, .inr (4, [.ref a1, .ref a2, .ref a3, .ref a4, .ref a5, .int (nI n0), .int nc, .int (bI ne), .int 1])), (a1, .inl (T 0, 8, .inl (fun k => nI (yv k / 4)))), (a2, .inl (T 2, 8, .inl (fun k => bI (isE (yv k))))), (a3, .inl (T 2, 8, .inl (fun k => bI (isB (yv k))))), (a4, .inl (T 0, 60, .inl (fun k => nI (tw k / 4)))), (a5, .inl (T 2, 60, .inl (fun k => bI (isE (tw k)))))] := hD
  refine zb_ne (tgt := 11) hx hb dX8_order_6 (by decide) (fun h1 => ?_) (fun h1 => ?_)
  · exact absurd h1 (by decide)
  · refine lv_iconst (v := 0) hx hb dX8_order_9 (by decide) ?_
    exact zh_iret () hx hb hr hlocks dX8_order_10 hP hD hS (rfl) (rfl)
set_option maxRecDepth 20000 in
theorem c_X8_opposite_ok (l : Launch) (D : va_G) (T : Nat → ClassId) (q a1 a2 a3 a4 a5 : Nat) (yv tw : Nat → Nat) (n0 : Nat) (nc : Int32) (ne : Bool) (th : Int32) (p : Nat) (hp : p < 8) (p2 : Nat) (hp2 : p2 < 8) : Hm l yX8_opposite cX8_opposite 3 (some FieldType.boolean) 2 0 0 D T [.ref q, .int (nI p), .int (nI p2)] [(q, .inr (4, [.ref a1, .ref a2, .ref a3, .ref a4, .ref a5, .int (nI n0), .int nc, .int (bI ne), .int th])), (a1, .inl (T 0, 8, .inl (fun k => nI (yv k / 4)))), (a2, .inl (T 2, 8, .inl (fun k => bI (isE (yv k))))), (a3, .inl (T 2, 8, .inl (fun k => bI (isB (yv k))))), (a4, .inl (T 0, 60, .inl (fun k => nI (tw k / 4)))), (a5, .inl (T 2, 60, .inl (fun k => bI (isE (tw k)))))] (some (.int (bI true))) (fun _ : Unit => [(q, .inr (4, [.ref a1, .ref a2, .ref a3, .ref a4, .ref a5, .int (nI n0), .int nc, .int (bI ne), .int 0])), (a1, .inl (T 0, 8, .inl (fun k => nI ((up yv p2 (oppN (yv p))) k / 4)))), (a2, .inl (T 2, 8, .inl (fun k => bI (isE ((up yv p2 (oppN (yv p))) k))))), (a3, .inl (T 2, 8, .inl (fun k => bI (isB ((up yv p2 (oppN (yv p))) k))))), (a4, .inl (T 0, 60, .inl (fun k => nI (tw k / 4)))), (a5, .inl (T 2, 60, .inl (fun k => bI (isE (tw k)))))]) := by
  refine Hm.of (by decide) (Nat.le_of_ble_eq_true rfl) ?_
  intro zp ze s zm args below zmeth zc hx hb hr hml hown hin hts hlocks A hA hP hK hD hS ls hl
  have hl : lv_has ls 3 [(0, .ref q), (1, .int (nI p)), (2, .int (nI p2))] := hl
  refine lv_aload_n hx hb dX8_opposite_0 rfl (lv_at hl 0 rfl) ?_
  refine lv_iload_n hx hb dX8_opposite_1 rfl (lv_at hl 1 rfl) ?_
  refine lv_iload_n hx hb dX8_opposite_2 rfl (lv_at hl 2 rfl) ?_
  refine zh_v (T := T) hx hb hml hown hts k_X8_84 (c_X8_arePlaces_ok l D T q a1 a2 a3 a4 a5 yv tw n0 nc ne th p hp p2 hp2) ⟨by decide, by decide⟩ rfl hl.1 [] rfl (Nat.le_of_ble_eq_true rfl) dX8_opposite_3 ⟨Nat.le_of_ble_eq_true rfl, Nat.le_of_ble_eq_true rfl⟩ hK hP hD hS hA (ci := 4) rfl rfl rfl [0, 1, 2, 3, 4, 5] [] (wr := []) rfl rfl (by decide) (by decide) (by decide) [0, 1, 2, 3, 4, 5] (fun _ => [(q, .inr (4, [.ref a1, .ref a2, .ref a3, .ref a4, .ref a5, .int (nI n0), .int nc, .int (bI ne), .int 0])), (a1, .inl (T 0, 8, .inl (fun k => nI (yv k / 4)))), (a2, .inl (T 2, 8, .inl (fun k => bI (isE (yv k))))), (a3, .inl (T 2, 8, .inl (fun k => bI (isB (yv k))))), (a4, .inl (T 0, 60, .inl (fun k => nI (tw k / 4)))), (a5, .inl (T 2, 60, .inl (fun k => bI (isE (tw k)))))]) (by decide) (fun _ => rfl) (fun _ H locs hP hD hS => ?_)
  have hP : va_P D zcl [(q, .inr (4, [.ref a1, .ref a2, .ref a3, .ref a4, .ref a5, .int (nI n0), .int nc, .int (bI ne), .int 0])), (a1, .inl (T 0, 8, .inl (fun k => nI (yv k / 4)))), (a2, .inl (T 2, 8, .inl (fun k => bI (isE (yv k))))), (a3, .inl (T 2, 8, .inl (fun k => bI (isB (yv k))))), (a4, .inl (T 0, 60, .inl (fun k => nI (tw k / 4)))), (a5, .inl (T 2, 60, .inl (fun k => bI (isE (tw k)))))] H := hP
  have hD : va_D A [(q, .inr (4, [.ref a1, .ref a2, .ref a3, .ref a4, .ref a5, .int (nI n0), .int nc, .int (bI ne), .int 0])), (a1, .inl (T 0, 8, .inl (fun k => nI (yv k / 4)))), (a2, .inl (T 2, 8, .inl (fun k => bI (isE (yv k))))), (a3, .inl (T 2, 8, .inl (fun k => bI (isB (yv k))))), (a4, .inl (T 0, 60, .inl (fun k => nI (tw k / 4)))), (a5, .inl (T 2, 60, .inl (fun k => bI (isE (tw k)))))] := hD
  refine zb_ne (tgt := 11) hx hb dX8_opposite_6 (by decide) (fun h1 => ?_) (fun h1 => ?_)
  · refine lv_aload_n hx hb dX8_opposite_11 rfl (lv_at hl 0 rfl) ?_
    refine lv_iload_n hx hb dX8_opposite_12 rfl (lv_at hl 2 rfl) ?_
    refine lv_aload_n hx hb dX8_opposite_13 rfl (lv_at hl 0 rfl) ?_
    refine va_get (D := D) (ci := 4) (v := .ref a1) (C := RX8) (T := TX8) (N := 9) hx hb hts i_X8 hown hK hP 0 rfl rfl 0 (by decide) (hts _ u734) (fun _ h9 => h9) rfl dX8_opposite_14 ?_
    refine lv_iload_n hx hb dX8_opposite_17 rfl (lv_at hl 1 rfl) ?_
    refine za_iald hx hb hK hP 1 rfl p (rfl) (by omega) (by decide) dX8_opposite_18 ?_
    refine lv_aload_n hx hb dX8_opposite_19 rfl (lv_at hl 0 rfl) ?_
    refine va_get (D := D) (ci := 4) (v := .ref a2) (C := RX8) (T := TX8) (N := 9) hx hb hts i_X8 hown hK hP 0 rfl rfl 1 (by decide) (hts _ u735) (fun _ h9 => h9) rfl dX8_opposite_20 ?_
    refine lv_iload_n hx hb dX8_opposite_23 rfl (lv_at hl 1 rfl) ?_
    refine za_zald hx hb hK hP 2 rfl p (rfl) (by omega) (by decide) dX8_opposite_24 ?_
    refine lv_aload_n hx hb dX8_opposite_25 rfl (lv_at hl 0 rfl) ?_
    refine va_get (D := D) (ci := 4) (v := .ref a3) (C := RX8) (T := TX8) (N := 9) hx hb hts i_X8 hown hK hP 0 rfl rfl 2 (by decide) (hts _ u736) (fun _ h9 => h9) rfl dX8_opposite_26 ?_
    refine lv_iload_n hx hb dX8_opposite_29 rfl (lv_at hl 1 rfl) ?_
    refine za_zald hx hb hK hP 3 rfl p (rfl) (by omega) (by decide) dX8_opposite_30 ?_
    refine zb_ne (tgt := 38) hx hb dX8_opposite_31 (by decide) (fun h2 => ?_) (fun h2 => ?_)
    · refine lv_iconst (v := 0) hx hb dX8_opposite_38 (by decide) ?_
      refine zh_v (T := T) hx hb hml hown hts k_X8_62 (c_X8_write l D T q a1 a2 a3 a4 a5 yv tw n0 nc ne 0 p2 hp2 (yv p / 4) (isE (yv p)) false) ⟨by decide, by decide⟩ rfl hl.1 [] rfl (Nat.le_of_ble_eq_true rfl) dX8_opposite_39 ⟨Nat.le_of_ble_eq_true rfl, Nat.le_of_ble_eq_true rfl⟩ hK hP hD hS hA (ci := 4) rfl rfl rfl [0, 1, 2, 3, 4, 5] [] (wr := []) rfl rfl (by decide) (by decide) (by decide) [0, 1, 2, 3, 4, 5] (fun _ => [(q, .inr (4, [.ref a1, .ref a2, .ref a3, .ref a4, .ref a5, .int (nI n0), .int nc, .int (bI ne), .int 0])), (a1, .inl (T 0, 8, .inl (fun k => nI ((up yv p2 (mk (yv p / 4) (isE (yv p)) false)) k / 4)))), (a2, .inl (T 2, 8, .inl (fun k => bI (isE ((up yv p2 (mk (yv p / 4) (isE (yv p)) false)) k))))), (a3, .inl (T 2, 8, .inl (fun k => bI (isB ((up yv p2 (mk (yv p / 4) (isE (yv p)) false)) k))))), (a4, .inl (T 0, 60, .inl (fun k => nI (tw k / 4)))), (a5, .inl (T 2, 60, .inl (fun k => bI (isE (tw k)))))]) (by decide) (fun _ => rfl) (fun _ H locs hP hD hS => ?_)
      have hP : va_P D zcl [(q, .inr (4, [.ref a1, .ref a2, .ref a3, .ref a4, .ref a5, .int (nI n0), .int nc, .int (bI ne), .int 0])), (a1, .inl (T 0, 8, .inl (fun k => nI ((up yv p2 (mk (yv p / 4) (isE (yv p)) false)) k / 4)))), (a2, .inl (T 2, 8, .inl (fun k => bI (isE ((up yv p2 (mk (yv p / 4) (isE (yv p)) false)) k))))), (a3, .inl (T 2, 8, .inl (fun k => bI (isB ((up yv p2 (mk (yv p / 4) (isE (yv p)) false)) k))))), (a4, .inl (T 0, 60, .inl (fun k => nI (tw k / 4)))), (a5, .inl (T 2, 60, .inl (fun k => bI (isE (tw k)))))] H := hP
      have hD : va_D A [(q, .inr (4, [.ref a1, .ref a2, .ref a3, .ref a4, .ref a5, .int (nI n0), .int nc, .int (bI ne), .int 0])), (a1, .inl (T 0, 8, .inl (fun k => nI ((up yv p2 (mk (yv p / 4) (isE (yv p)) false)) k / 4)))), (a2, .inl (T 2, 8, .inl (fun k => bI (isE ((up yv p2 (mk (yv p / 4) (isE (yv p)) false)) k))))), (a3, .inl (T 2, 8, .inl (fun k => bI (isB ((up yv p2 (mk (yv p / 4) (isE (yv p)) false)) k))))), (a4, .inl (T 0, 60, .inl (fun k => nI (tw k / 4)))), (a5, .inl (T 2, 60, .inl (fun k => bI (isE (tw k)))))] := hD
      refine lv_iconst (v := 1) hx hb dX8_opposite_42 (by decide) ?_
      exact zh_zret () hx hb hr hlocks dX8_opposite_43 hP hD hS (rfl) (by unfold oppN; rw [h2]; rfl)
    · refine lv_iconst (v := 1) hx hb dX8_opposite_34 (by decide) ?_
      refine lv_goto (tgt := 39) hx hb dX8_opposite_35 (by decide) ?_
      refine zh_v (T := T) hx hb hml hown hts k_X8_62 (c_X8_write l D T q a1 a2 a3 a4 a5 yv tw n0 nc ne 0 p2 hp2 (yv p / 4) (isE (yv p)) true) ⟨by decide, by decide⟩ rfl hl.1 [] rfl (Nat.le_of_ble_eq_true rfl) dX8_opposite_39 ⟨Nat.le_of_ble_eq_true rfl, Nat.le_of_ble_eq_true rfl⟩ hK hP hD hS hA (ci := 4) rfl rfl rfl [0, 1, 2, 3, 4, 5] [] (wr := []) rfl rfl (by decide) (by decide) (by decide) [0, 1, 2, 3, 4, 5] (fun _ => [(q, .inr (4, [.ref a1, .ref a2, .ref a3, .ref a4, .ref a5, .int (nI n0), .int nc, .int (bI ne), .int 0])), (a1, .inl (T 0, 8, .inl (fun k => nI ((up yv p2 (mk (yv p / 4) (isE (yv p)) true)) k / 4)))), (a2, .inl (T 2, 8, .inl (fun k => bI (isE ((up yv p2 (mk (yv p / 4) (isE (yv p)) true)) k))))), (a3, .inl (T 2, 8, .inl (fun k => bI (isB ((up yv p2 (mk (yv p / 4) (isE (yv p)) true)) k))))), (a4, .inl (T 0, 60, .inl (fun k => nI (tw k / 4)))), (a5, .inl (T 2, 60, .inl (fun k => bI (isE (tw k)))))]) (by decide) (fun _ => rfl) (fun _ H locs hP hD hS => ?_)
      have hP : va_P D zcl [(q, .inr (4, [.ref a1, .ref a2, .ref a3, .ref a4, .ref a5, .int (nI n0), .int nc, .int (bI ne), .int 0])), (a1, .inl (T 0, 8, .inl (fun k => nI ((up yv p2 (mk (yv p / 4) (isE (yv p)) true)) k / 4)))), (a2, .inl (T 2, 8, .inl (fun k => bI (isE ((up yv p2 (mk (yv p / 4) (isE (yv p)) true)) k))))), (a3, .inl (T 2, 8, .inl (fun k => bI (isB ((up yv p2 (mk (yv p / 4) (isE (yv p)) true)) k))))), (a4, .inl (T 0, 60, .inl (fun k => nI (tw k / 4)))), (a5, .inl (T 2, 60, .inl (fun k => bI (isE (tw k)))))] H := hP
      have hD : va_D A [(q, .inr (4, [.ref a1, .ref a2, .ref a3, .ref a4, .ref a5, .int (nI n0), .int nc, .int (bI ne), .int 0])), (a1, .inl (T 0, 8, .inl (fun k => nI ((up yv p2 (mk (yv p / 4) (isE (yv p)) true)) k / 4)))), (a2, .inl (T 2, 8, .inl (fun k => bI (isE ((up yv p2 (mk (yv p / 4) (isE (yv p)) true)) k))))), (a3, .inl (T 2, 8, .inl (fun k => bI (isB ((up yv p2 (mk (yv p / 4) (isE (yv p)) true)) k))))), (a4, .inl (T 0, 60, .inl (fun k => nI (tw k / 4)))), (a5, .inl (T 2, 60, .inl (fun k => bI (isE (tw k)))))] := hD
      refine lv_iconst (v := 1) hx hb dX8_opposite_42 (by decide) ?_
      exact zh_zret () hx hb hr hlocks dX8_opposite_43 hP hD hS (rfl) (by unfold oppN; rw [h2]; rfl)
  · exact absurd h1 (by decide)
set_option maxRecDepth 20000 in
theorem c_X8_opposite_no (l : Launch) (D : va_G) (T : Nat → ClassId) (q a1 a2 a3 a4 a5 : Nat) (yv tw : Nat → Nat) (n0 : Nat) (nc : Int32) (ne : Bool) (th : Int32) (x y : Int32) (hx0 : (m_X8_is x && m_X8_is y) = false) : Hm l yX8_opposite cX8_opposite 3 (some FieldType.boolean) 2 0 0 D T [.ref q, .int x, .int y] [(q, .inr (4, [.ref a1, .ref a2, .ref a3, .ref a4, .ref a5, .int (nI n0), .int nc, .int (bI ne), .int th])), (a1, .inl (T 0, 8, .inl (fun k => nI (yv k / 4)))), (a2, .inl (T 2, 8, .inl (fun k => bI (isE (yv k))))), (a3, .inl (T 2, 8, .inl (fun k => bI (isB (yv k))))), (a4, .inl (T 0, 60, .inl (fun k => nI (tw k / 4)))), (a5, .inl (T 2, 60, .inl (fun k => bI (isE (tw k)))))] (some (.int (bI false))) (fun _ : Unit => [(q, .inr (4, [.ref a1, .ref a2, .ref a3, .ref a4, .ref a5, .int (nI n0), .int nc, .int (bI ne), .int 1])), (a1, .inl (T 0, 8, .inl (fun k => nI (yv k / 4)))), (a2, .inl (T 2, 8, .inl (fun k => bI (isE (yv k))))), (a3, .inl (T 2, 8, .inl (fun k => bI (isB (yv k))))), (a4, .inl (T 0, 60, .inl (fun k => nI (tw k / 4)))), (a5, .inl (T 2, 60, .inl (fun k => bI (isE (tw k)))))]) := by
  refine Hm.of (by decide) (Nat.le_of_ble_eq_true rfl) ?_
  intro zp ze s zm args below zmeth zc hx hb hr hml hown hin hts hlocks A hA hP hK hD hS ls hl
  have hl : lv_has ls 3 [(0, .ref q), (1, .int x), (2, .int y)] := hl
  refine lv_aload_n hx hb dX8_opposite_0 rfl (lv_at hl 0 rfl) ?_
  refine lv_iload_n hx hb dX8_opposite_1 rfl (lv_at hl 1 rfl) ?_
  refine lv_iload_n hx hb dX8_opposite_2 rfl (lv_at hl 2 rfl) ?_
  refine zh_v (T := T) hx hb hml hown hts k_X8_84 (c_X8_arePlaces_no l D T q a1 a2 a3 a4 a5 yv tw n0 nc ne th x y hx0) ⟨by decide, by decide⟩ rfl hl.1 [] rfl (Nat.le_of_ble_eq_true rfl) dX8_opposite_3 ⟨Nat.le_of_ble_eq_true rfl, Nat.le_of_ble_eq_true rfl⟩ hK hP hD hS hA (ci := 4) rfl rfl rfl [0, 1, 2, 3, 4, 5] [] (wr := []) rfl rfl (by decide) (by decide) (by decide) [0, 1, 2, 3, 4, 5] (fun _ => [(q, .inr (4, [.ref a1, .ref a2, .ref a3, .ref a4, .ref a5, .int (nI n0), .int nc, .int (bI ne), .int 1])), (a1, .inl (T 0, 8, .inl (fun k => nI (yv k / 4)))), (a2, .inl (T 2, 8, .inl (fun k => bI (isE (yv k))))), (a3, .inl (T 2, 8, .inl (fun k => bI (isB (yv k))))), (a4, .inl (T 0, 60, .inl (fun k => nI (tw k / 4)))), (a5, .inl (T 2, 60, .inl (fun k => bI (isE (tw k)))))]) (by decide) (fun _ => rfl) (fun _ H locs hP hD hS => ?_)
  have hP : va_P D zcl [(q, .inr (4, [.ref a1, .ref a2, .ref a3, .ref a4, .ref a5, .int (nI n0), .int nc, .int (bI ne), .int 1])), (a1, .inl (T 0, 8, .inl (fun k => nI (yv k / 4)))), (a2, .inl (T 2, 8, .inl (fun k => bI (isE (yv k))))), (a3, .inl (T 2, 8, .inl (fun k => bI (isB (yv k))))), (a4, .inl (T 0, 60, .inl (fun k => nI (tw k / 4)))), (a5, .inl (T 2, 60, .inl (fun k => bI (isE (tw k)))))] H := hP
  have hD : va_D A [(q, .inr (4, [.ref a1, .ref a2, .ref a3, .ref a4, .ref a5, .int (nI n0), .int nc, .int (bI ne), .int 1])), (a1, .inl (T 0, 8, .inl (fun k => nI (yv k / 4)))), (a2, .inl (T 2, 8, .inl (fun k => bI (isE (yv k))))), (a3, .inl (T 2, 8, .inl (fun k => bI (isB (yv k))))), (a4, .inl (T 0, 60, .inl (fun k => nI (tw k / 4)))), (a5, .inl (T 2, 60, .inl (fun k => bI (isE (tw k)))))] := hD
  refine zb_ne (tgt := 11) hx hb dX8_opposite_6 (by decide) (fun h1 => ?_) (fun h1 => ?_)
  · exact absurd h1 (by decide)
  · refine lv_iconst (v := 0) hx hb dX8_opposite_9 (by decide) ?_
    exact zh_zret () hx hb hr hlocks dX8_opposite_10 hP hD hS (rfl) (rfl)
set_option maxRecDepth 20000 in
theorem c_X8_eightfold_ok (l : Launch) (D : va_G) (T : Nat → ClassId) (q a1 a2 a3 a4 a5 : Nat) (yv tw : Nat → Nat) (n0 : Nat) (nc : Int32) (ne : Bool) (th : Int32) (p : Nat) (hp : p < 8) (p2 : Nat) (hp2 : p2 < 8) (he : eig (yv p) ≤ 65535) : Hm l yX8_eightfold cX8_eightfold 4 (some FieldType.boolean) 2 0 0 D T [.ref q, .int (nI p), .int (nI p2)] [(q, .inr (4, [.ref a1, .ref a2, .ref a3, .ref a4, .ref a5, .int (nI n0), .int nc, .int (bI ne), .int th])), (a1, .inl (T 0, 8, .inl (fun k => nI (yv k / 4)))), (a2, .inl (T 2, 8, .inl (fun k => bI (isE (yv k))))), (a3, .inl (T 2, 8, .inl (fun k => bI (isB (yv k))))), (a4, .inl (T 0, 60, .inl (fun k => nI (tw k / 4)))), (a5, .inl (T 2, 60, .inl (fun k => bI (isE (tw k)))))] (some (.int (bI true))) (fun _ : Unit => [(q, .inr (4, [.ref a1, .ref a2, .ref a3, .ref a4, .ref a5, .int (nI n0), .int nc, .int (bI ne), .int 0])), (a1, .inl (T 0, 8, .inl (fun k => nI ((up yv p2 (mk (eig (yv p)) false (isB (yv p)))) k / 4)))), (a2, .inl (T 2, 8, .inl (fun k => bI (isE ((up yv p2 (mk (eig (yv p)) false (isB (yv p)))) k))))), (a3, .inl (T 2, 8, .inl (fun k => bI (isB ((up yv p2 (mk (eig (yv p)) false (isB (yv p)))) k))))), (a4, .inl (T 0, 60, .inl (fun k => nI (tw k / 4)))), (a5, .inl (T 2, 60, .inl (fun k => bI (isE (tw k)))))]) := by
  refine Hm.of (by decide) (Nat.le_of_ble_eq_true rfl) ?_
  intro zp ze s zm args below zmeth zc hx hb hr hml hown hin hts hlocks A hA hP hK hD hS ls hl
  have hl : lv_has ls 4 [(0, .ref q), (1, .int (nI p)), (2, .int (nI p2))] := hl
  refine lv_aload_n hx hb dX8_eightfold_0 rfl (lv_at hl 0 rfl) ?_
  refine lv_iload_n hx hb dX8_eightfold_1 rfl (lv_at hl 1 rfl) ?_
  refine lv_iload_n hx hb dX8_eightfold_2 rfl (lv_at hl 2 rfl) ?_
  refine zh_v (T := T) hx hb hml hown hts k_X8_84 (c_X8_arePlaces_ok l D T q a1 a2 a3 a4 a5 yv tw n0 nc ne th p hp p2 hp2) ⟨by decide, by decide⟩ rfl hl.1 [] rfl (Nat.le_of_ble_eq_true rfl) dX8_eightfold_3 ⟨Nat.le_of_ble_eq_true rfl, Nat.le_of_ble_eq_true rfl⟩ hK hP hD hS hA (ci := 4) rfl rfl rfl [0, 1, 2, 3, 4, 5] [] (wr := []) rfl rfl (by decide) (by decide) (by decide) [0, 1, 2, 3, 4, 5] (fun _ => [(q, .inr (4, [.ref a1, .ref a2, .ref a3, .ref a4, .ref a5, .int (nI n0), .int nc, .int (bI ne), .int 0])), (a1, .inl (T 0, 8, .inl (fun k => nI (yv k / 4)))), (a2, .inl (T 2, 8, .inl (fun k => bI (isE (yv k))))), (a3, .inl (T 2, 8, .inl (fun k => bI (isB (yv k))))), (a4, .inl (T 0, 60, .inl (fun k => nI (tw k / 4)))), (a5, .inl (T 2, 60, .inl (fun k => bI (isE (tw k)))))]) (by decide) (fun _ => rfl) (fun _ H locs hP hD hS => ?_)
  have hP : va_P D zcl [(q, .inr (4, [.ref a1, .ref a2, .ref a3, .ref a4, .ref a5, .int (nI n0), .int nc, .int (bI ne), .int 0])), (a1, .inl (T 0, 8, .inl (fun k => nI (yv k / 4)))), (a2, .inl (T 2, 8, .inl (fun k => bI (isE (yv k))))), (a3, .inl (T 2, 8, .inl (fun k => bI (isB (yv k))))), (a4, .inl (T 0, 60, .inl (fun k => nI (tw k / 4)))), (a5, .inl (T 2, 60, .inl (fun k => bI (isE (tw k)))))] H := hP
  have hD : va_D A [(q, .inr (4, [.ref a1, .ref a2, .ref a3, .ref a4, .ref a5, .int (nI n0), .int nc, .int (bI ne), .int 0])), (a1, .inl (T 0, 8, .inl (fun k => nI (yv k / 4)))), (a2, .inl (T 2, 8, .inl (fun k => bI (isE (yv k))))), (a3, .inl (T 2, 8, .inl (fun k => bI (isB (yv k))))), (a4, .inl (T 0, 60, .inl (fun k => nI (tw k / 4)))), (a5, .inl (T 2, 60, .inl (fun k => bI (isE (tw k)))))] := hD
  refine zb_ne (tgt := 11) hx hb dX8_eightfold_6 (by decide) (fun h1 => ?_) (fun h1 => ?_)
  · refine lv_aload_n hx hb dX8_eightfold_11 rfl (lv_at hl 0 rfl) ?_
    refine va_get (D := D) (ci := 4) (v := .ref a2) (C := RX8) (T := TX8) (N := 9) hx hb hts i_X8 hown hK hP 0 rfl rfl 1 (by decide) (hts _ u735) (fun _ h9 => h9) rfl dX8_eightfold_12 ?_
    refine lv_iload_n hx hb dX8_eightfold_15 rfl (lv_at hl 1 rfl) ?_
    refine za_zald hx hb hK hP 2 rfl p (rfl) (by omega) (by decide) dX8_eightfold_16 ?_
    refine zb_eq (tgt := 29) hx hb dX8_eightfold_17 (by decide) (fun h2 => ?_) (fun h2 => ?_)
    · refine lv_bipush (v := 8) hx hb dX8_eightfold_29 (by decide) ?_
      refine lv_aload_n hx hb dX8_eightfold_31 rfl (lv_at hl 0 rfl) ?_
      refine va_get (D := D) (ci := 4) (v := .ref a1) (C := RX8) (T := TX8) (N := 9) hx hb hts i_X8 hown hK hP 0 rfl rfl 0 (by decide) (hts _ u734) (fun _ h9 => h9) rfl dX8_eightfold_32 ?_
      refine lv_iload_n hx hb dX8_eightfold_35 rfl (lv_at hl 1 rfl) ?_
      refine za_iald hx hb hK hP 1 rfl p (rfl) (by omega) (by decide) dX8_eightfold_36 ?_
      refine lv_imul hx hb dX8_eightfold_37 ?_
      refine zf_i (x' := nI (eig (yv p))) (by rw [eig_U h2]; exact pk_mul 8 (yv p / 4)) ?_
      refine lv_istore_n (lv' := [(3, .int (nI (eig (yv p)))), (0, .ref q), (1, .int (nI p)), (2, .int (nI p2))]) hx hb dX8_eightfold_38 rfl hl (by decide) rfl (fun ls hl => ?_)
      refine lv_iload_n hx hb dX8_eightfold_39 rfl (lv_at hl 0 rfl) ?_
      refine lv_ldc hx hb hown (hts _ u774) dX8_eightfold_40 ?_
      refine lv_icmp_le (tgt := 52) hx hb dX8_eightfold_42 (by decide) (fun h3 => ?_) (fun h3 => ?_)
      · refine lv_aload_n hx hb dX8_eightfold_52 rfl (lv_at hl 1 rfl) ?_
        refine lv_iload_n hx hb dX8_eightfold_53 rfl (lv_at hl 3 rfl) ?_
        refine lv_iload_n hx hb dX8_eightfold_54 rfl (lv_at hl 0 rfl) ?_
        refine lv_iconst (v := 0) hx hb dX8_eightfold_55 (by decide) ?_
        refine lv_aload_n hx hb dX8_eightfold_56 rfl (lv_at hl 1 rfl) ?_
        refine va_get (D := D) (ci := 4) (v := .ref a3) (C := RX8) (T := TX8) (N := 9) hx hb hts i_X8 hown hK hP 0 rfl rfl 2 (by decide) (hts _ u736) (fun _ h9 => h9) rfl dX8_eightfold_57 ?_
        refine lv_iload_n hx hb dX8_eightfold_60 rfl (lv_at hl 2 rfl) ?_
        refine za_zald hx hb hK hP 3 rfl p (rfl) (by omega) (by decide) dX8_eightfold_61 ?_
        refine zh_v (T := T) hx hb hml hown hts k_X8_62 (c_X8_write l D T q a1 a2 a3 a4 a5 yv tw n0 nc ne 0 p2 hp2 (eig (yv p)) false (isB (yv p))) ⟨by decide, by decide⟩ rfl hl.1 [] rfl (Nat.le_of_ble_eq_true rfl) dX8_eightfold_62 ⟨Nat.le_of_ble_eq_true rfl, Nat.le_of_ble_eq_true rfl⟩ hK hP hD hS hA (ci := 4) rfl rfl rfl [0, 1, 2, 3, 4, 5] [] (wr := []) rfl rfl (by decide) (by decide) (by decide) [0, 1, 2, 3, 4, 5] (fun _ => [(q, .inr (4, [.ref a1, .ref a2, .ref a3, .ref a4, .ref a5, .int (nI n0), .int nc, .int (bI ne), .int 0])), (a1, .inl (T 0, 8, .inl (fun k => nI ((up yv p2 (mk (eig (yv p)) false (isB (yv p)))) k / 4)))), (a2, .inl (T 2, 8, .inl (fun k => bI (isE ((up yv p2 (mk (eig (yv p)) false (isB (yv p)))) k))))), (a3, .inl (T 2, 8, .inl (fun k => bI (isB ((up yv p2 (mk (eig (yv p)) false (isB (yv p)))) k))))), (a4, .inl (T 0, 60, .inl (fun k => nI (tw k / 4)))), (a5, .inl (T 2, 60, .inl (fun k => bI (isE (tw k)))))]) (by decide) (fun _ => rfl) (fun _ H locs hP hD hS => ?_)
        have hP : va_P D zcl [(q, .inr (4, [.ref a1, .ref a2, .ref a3, .ref a4, .ref a5, .int (nI n0), .int nc, .int (bI ne), .int 0])), (a1, .inl (T 0, 8, .inl (fun k => nI ((up yv p2 (mk (eig (yv p)) false (isB (yv p)))) k / 4)))), (a2, .inl (T 2, 8, .inl (fun k => bI (isE ((up yv p2 (mk (eig (yv p)) false (isB (yv p)))) k))))), (a3, .inl (T 2, 8, .inl (fun k => bI (isB ((up yv p2 (mk (eig (yv p)) false (isB (yv p)))) k))))), (a4, .inl (T 0, 60, .inl (fun k => nI (tw k / 4)))), (a5, .inl (T 2, 60, .inl (fun k => bI (isE (tw k)))))] H := hP
        have hD : va_D A [(q, .inr (4, [.ref a1, .ref a2, .ref a3, .ref a4, .ref a5, .int (nI n0), .int nc, .int (bI ne), .int 0])), (a1, .inl (T 0, 8, .inl (fun k => nI ((up yv p2 (mk (eig (yv p)) false (isB (yv p)))) k / 4)))), (a2, .inl (T 2, 8, .inl (fun k => bI (isE ((up yv p2 (mk (eig (yv p)) false (isB (yv p)))) k))))), (a3, .inl (T 2, 8, .inl (fun k => bI (isB ((up yv p2 (mk (eig (yv p)) false (isB (yv p)))) k))))), (a4, .inl (T 0, 60, .inl (fun k => nI (tw k / 4)))), (a5, .inl (T 2, 60, .inl (fun k => bI (isE (tw k)))))] := hD
        refine lv_iconst (v := 1) hx hb dX8_eightfold_65 (by decide) ?_
        exact zh_zret () hx hb hr hlocks dX8_eightfold_66 hP hD hS (rfl) (rfl)
      · exact absurd (show nI (eig (yv p)) ≤ nI 65535 from nI_le he (by decide)) h3
    · refine lv_aload_n hx hb dX8_eightfold_20 rfl (lv_at hl 0 rfl) ?_
      refine va_get (D := D) (ci := 4) (v := .ref a1) (C := RX8) (T := TX8) (N := 9) hx hb hts i_X8 hown hK hP 0 rfl rfl 0 (by decide) (hts _ u734) (fun _ h9 => h9) rfl dX8_eightfold_21 ?_
      refine lv_iload_n hx hb dX8_eightfold_24 rfl (lv_at hl 1 rfl) ?_
      refine za_iald hx hb hK hP 1 rfl p (rfl) (by omega) (by decide) dX8_eightfold_25 ?_
      refine zf_i (x' := nI (eig (yv p))) (by rw [eig_E h2]) ?_
      refine lv_goto (tgt := 38) hx hb dX8_eightfold_26 (by decide) ?_
      refine lv_istore_n (lv' := [(3, .int (nI (eig (yv p)))), (0, .ref q), (1, .int (nI p)), (2, .int (nI p2))]) hx hb dX8_eightfold_38 rfl hl (by decide) rfl (fun ls hl => ?_)
      refine lv_iload_n hx hb dX8_eightfold_39 rfl (lv_at hl 0 rfl) ?_
      refine lv_ldc hx hb hown (hts _ u774) dX8_eightfold_40 ?_
      refine lv_icmp_le (tgt := 52) hx hb dX8_eightfold_42 (by decide) (fun h4 => ?_) (fun h4 => ?_)
      · refine lv_aload_n hx hb dX8_eightfold_52 rfl (lv_at hl 1 rfl) ?_
        refine lv_iload_n hx hb dX8_eightfold_53 rfl (lv_at hl 3 rfl) ?_
        refine lv_iload_n hx hb dX8_eightfold_54 rfl (lv_at hl 0 rfl) ?_
        refine lv_iconst (v := 0) hx hb dX8_eightfold_55 (by decide) ?_
        refine lv_aload_n hx hb dX8_eightfold_56 rfl (lv_at hl 1 rfl) ?_
        refine va_get (D := D) (ci := 4) (v := .ref a3) (C := RX8) (T := TX8) (N := 9) hx hb hts i_X8 hown hK hP 0 rfl rfl 2 (by decide) (hts _ u736) (fun _ h9 => h9) rfl dX8_eightfold_57 ?_
        refine lv_iload_n hx hb dX8_eightfold_60 rfl (lv_at hl 2 rfl) ?_
        refine za_zald hx hb hK hP 3 rfl p (rfl) (by omega) (by decide) dX8_eightfold_61 ?_
        refine zh_v (T := T) hx hb hml hown hts k_X8_62 (c_X8_write l D T q a1 a2 a3 a4 a5 yv tw n0 nc ne 0 p2 hp2 (eig (yv p)) false (isB (yv p))) ⟨by decide, by decide⟩ rfl hl.1 [] rfl (Nat.le_of_ble_eq_true rfl) dX8_eightfold_62 ⟨Nat.le_of_ble_eq_true rfl, Nat.le_of_ble_eq_true rfl⟩ hK hP hD hS hA (ci := 4) rfl rfl rfl [0, 1, 2, 3, 4, 5] [] (wr := []) rfl rfl (by decide) (by decide) (by decide) [0, 1, 2, 3, 4, 5] (fun _ => [(q, .inr (4, [.ref a1, .ref a2, .ref a3, .ref a4, .ref a5, .int (nI n0), .int nc, .int (bI ne), .int 0])), (a1, .inl (T 0, 8, .inl (fun k => nI ((up yv p2 (mk (eig (yv p)) false (isB (yv p)))) k / 4)))), (a2, .inl (T 2, 8, .inl (fun k => bI (isE ((up yv p2 (mk (eig (yv p)) false (isB (yv p)))) k))))), (a3, .inl (T 2, 8, .inl (fun k => bI (isB ((up yv p2 (mk (eig (yv p)) false (isB (yv p)))) k))))), (a4, .inl (T 0, 60, .inl (fun k => nI (tw k / 4)))), (a5, .inl (T 2, 60, .inl (fun k => bI (isE (tw k)))))]) (by decide) (fun _ => rfl) (fun _ H locs hP hD hS => ?_)
        have hP : va_P D zcl [(q, .inr (4, [.ref a1, .ref a2, .ref a3, .ref a4, .ref a5, .int (nI n0), .int nc, .int (bI ne), .int 0])), (a1, .inl (T 0, 8, .inl (fun k => nI ((up yv p2 (mk (eig (yv p)) false (isB (yv p)))) k / 4)))), (a2, .inl (T 2, 8, .inl (fun k => bI (isE ((up yv p2 (mk (eig (yv p)) false (isB (yv p)))) k))))), (a3, .inl (T 2, 8, .inl (fun k => bI (isB ((up yv p2 (mk (eig (yv p)) false (isB (yv p)))) k))))), (a4, .inl (T 0, 60, .inl (fun k => nI (tw k / 4)))), (a5, .inl (T 2, 60, .inl (fun k => bI (isE (tw k)))))] H := hP
        have hD : va_D A [(q, .inr (4, [.ref a1, .ref a2, .ref a3, .ref a4, .ref a5, .int (nI n0), .int nc, .int (bI ne), .int 0])), (a1, .inl (T 0, 8, .inl (fun k => nI ((up yv p2 (mk (eig (yv p)) false (isB (yv p)))) k / 4)))), (a2, .inl (T 2, 8, .inl (fun k => bI (isE ((up yv p2 (mk (eig (yv p)) false (isB (yv p)))) k))))), (a3, .inl (T 2, 8, .inl (fun k => bI (isB ((up yv p2 (mk (eig (yv p)) false (isB (yv p)))) k))))), (a4, .inl (T 0, 60, .inl (fun k => nI (tw k / 4)))), (a5, .inl (T 2, 60, .inl (fun k => bI (isE (tw k)))))] := hD
        refine lv_iconst (v := 1) hx hb dX8_eightfold_65 (by decide) ?_
        exact zh_zret () hx hb hr hlocks dX8_eightfold_66 hP hD hS (rfl) (rfl)
      · exact absurd (show nI (eig (yv p)) ≤ nI 65535 from nI_le he (by decide)) h4
  · exact absurd h1 (by decide)
set_option maxRecDepth 20000 in
theorem c_X8_eightfold_no (l : Launch) (D : va_G) (T : Nat → ClassId) (q a1 a2 a3 a4 a5 : Nat) (yv tw : Nat → Nat) (n0 : Nat) (nc : Int32) (ne : Bool) (th : Int32) (x y : Int32) (hx0 : (m_X8_is x && m_X8_is y) = false) : Hm l yX8_eightfold cX8_eightfold 4 (some FieldType.boolean) 2 0 0 D T [.ref q, .int x, .int y] [(q, .inr (4, [.ref a1, .ref a2, .ref a3, .ref a4, .ref a5, .int (nI n0), .int nc, .int (bI ne), .int th])), (a1, .inl (T 0, 8, .inl (fun k => nI (yv k / 4)))), (a2, .inl (T 2, 8, .inl (fun k => bI (isE (yv k))))), (a3, .inl (T 2, 8, .inl (fun k => bI (isB (yv k))))), (a4, .inl (T 0, 60, .inl (fun k => nI (tw k / 4)))), (a5, .inl (T 2, 60, .inl (fun k => bI (isE (tw k)))))] (some (.int (bI false))) (fun _ : Unit => [(q, .inr (4, [.ref a1, .ref a2, .ref a3, .ref a4, .ref a5, .int (nI n0), .int nc, .int (bI ne), .int 1])), (a1, .inl (T 0, 8, .inl (fun k => nI (yv k / 4)))), (a2, .inl (T 2, 8, .inl (fun k => bI (isE (yv k))))), (a3, .inl (T 2, 8, .inl (fun k => bI (isB (yv k))))), (a4, .inl (T 0, 60, .inl (fun k => nI (tw k / 4)))), (a5, .inl (T 2, 60, .inl (fun k => bI (isE (tw k)))))]) := by
  refine Hm.of (by decide) (Nat.le_of_ble_eq_true rfl) ?_
  intro zp ze s zm args below zmeth zc hx hb hr hml hown hin hts hlocks A hA hP hK hD hS ls hl
  have hl : lv_has ls 4 [(0, .ref q), (1, .int x), (2, .int y)] := hl
  refine lv_aload_n hx hb dX8_eightfold_0 rfl (lv_at hl 0 rfl) ?_
  refine lv_iload_n hx hb dX8_eightfold_1 rfl (lv_at hl 1 rfl) ?_
  refine lv_iload_n hx hb dX8_eightfold_2 rfl (lv_at hl 2 rfl) ?_
  refine zh_v (T := T) hx hb hml hown hts k_X8_84 (c_X8_arePlaces_no l D T q a1 a2 a3 a4 a5 yv tw n0 nc ne th x y hx0) ⟨by decide, by decide⟩ rfl hl.1 [] rfl (Nat.le_of_ble_eq_true rfl) dX8_eightfold_3 ⟨Nat.le_of_ble_eq_true rfl, Nat.le_of_ble_eq_true rfl⟩ hK hP hD hS hA (ci := 4) rfl rfl rfl [0, 1, 2, 3, 4, 5] [] (wr := []) rfl rfl (by decide) (by decide) (by decide) [0, 1, 2, 3, 4, 5] (fun _ => [(q, .inr (4, [.ref a1, .ref a2, .ref a3, .ref a4, .ref a5, .int (nI n0), .int nc, .int (bI ne), .int 1])), (a1, .inl (T 0, 8, .inl (fun k => nI (yv k / 4)))), (a2, .inl (T 2, 8, .inl (fun k => bI (isE (yv k))))), (a3, .inl (T 2, 8, .inl (fun k => bI (isB (yv k))))), (a4, .inl (T 0, 60, .inl (fun k => nI (tw k / 4)))), (a5, .inl (T 2, 60, .inl (fun k => bI (isE (tw k)))))]) (by decide) (fun _ => rfl) (fun _ H locs hP hD hS => ?_)
  have hP : va_P D zcl [(q, .inr (4, [.ref a1, .ref a2, .ref a3, .ref a4, .ref a5, .int (nI n0), .int nc, .int (bI ne), .int 1])), (a1, .inl (T 0, 8, .inl (fun k => nI (yv k / 4)))), (a2, .inl (T 2, 8, .inl (fun k => bI (isE (yv k))))), (a3, .inl (T 2, 8, .inl (fun k => bI (isB (yv k))))), (a4, .inl (T 0, 60, .inl (fun k => nI (tw k / 4)))), (a5, .inl (T 2, 60, .inl (fun k => bI (isE (tw k)))))] H := hP
  have hD : va_D A [(q, .inr (4, [.ref a1, .ref a2, .ref a3, .ref a4, .ref a5, .int (nI n0), .int nc, .int (bI ne), .int 1])), (a1, .inl (T 0, 8, .inl (fun k => nI (yv k / 4)))), (a2, .inl (T 2, 8, .inl (fun k => bI (isE (yv k))))), (a3, .inl (T 2, 8, .inl (fun k => bI (isB (yv k))))), (a4, .inl (T 0, 60, .inl (fun k => nI (tw k / 4)))), (a5, .inl (T 2, 60, .inl (fun k => bI (isE (tw k)))))] := hD
  refine zb_ne (tgt := 11) hx hb dX8_eightfold_6 (by decide) (fun h1 => ?_) (fun h1 => ?_)
  · exact absurd h1 (by decide)
  · refine lv_iconst (v := 0) hx hb dX8_eightfold_9 (by decide) ?_
    exact zh_zret () hx hb hr hlocks dX8_eightfold_10 hP hD hS (rfl) (rfl)
set_option maxRecDepth 20000 in
theorem c_X8_eightfold_big (l : Launch) (D : va_G) (T : Nat → ClassId) (q a1 a2 a3 a4 a5 : Nat) (yv tw : Nat → Nat) (n0 : Nat) (nc : Int32) (ne : Bool) (th : Int32) (p : Nat) (hp : p < 8) (p2 : Nat) (hp2 : p2 < 8) (he : 65535 < eig (yv p)) (hy : ∀ k, yv k < 262144) : Hm l yX8_eightfold cX8_eightfold 4 (some FieldType.boolean) 2 0 0 D T [.ref q, .int (nI p), .int (nI p2)] [(q, .inr (4, [.ref a1, .ref a2, .ref a3, .ref a4, .ref a5, .int (nI n0), .int nc, .int (bI ne), .int th])), (a1, .inl (T 0, 8, .inl (fun k => nI (yv k / 4)))), (a2, .inl (T 2, 8, .inl (fun k => bI (isE (yv k))))), (a3, .inl (T 2, 8, .inl (fun k => bI (isB (yv k))))), (a4, .inl (T 0, 60, .inl (fun k => nI (tw k / 4)))), (a5, .inl (T 2, 60, .inl (fun k => bI (isE (tw k)))))] (some (.int (bI false))) (fun _ : Unit => [(q, .inr (4, [.ref a1, .ref a2, .ref a3, .ref a4, .ref a5, .int (nI n0), .int nc, .int (bI ne), .int 2])), (a1, .inl (T 0, 8, .inl (fun k => nI (yv k / 4)))), (a2, .inl (T 2, 8, .inl (fun k => bI (isE (yv k))))), (a3, .inl (T 2, 8, .inl (fun k => bI (isB (yv k))))), (a4, .inl (T 0, 60, .inl (fun k => nI (tw k / 4)))), (a5, .inl (T 2, 60, .inl (fun k => bI (isE (tw k)))))]) := by
  refine Hm.of (by decide) (Nat.le_of_ble_eq_true rfl) ?_
  intro zp ze s zm args below zmeth zc hx hb hr hml hown hin hts hlocks A hA hP hK hD hS ls hl
  have hl : lv_has ls 4 [(0, .ref q), (1, .int (nI p)), (2, .int (nI p2))] := hl
  refine lv_aload_n hx hb dX8_eightfold_0 rfl (lv_at hl 0 rfl) ?_
  refine lv_iload_n hx hb dX8_eightfold_1 rfl (lv_at hl 1 rfl) ?_
  refine lv_iload_n hx hb dX8_eightfold_2 rfl (lv_at hl 2 rfl) ?_
  refine zh_v (T := T) hx hb hml hown hts k_X8_84 (c_X8_arePlaces_ok l D T q a1 a2 a3 a4 a5 yv tw n0 nc ne th p hp p2 hp2) ⟨by decide, by decide⟩ rfl hl.1 [] rfl (Nat.le_of_ble_eq_true rfl) dX8_eightfold_3 ⟨Nat.le_of_ble_eq_true rfl, Nat.le_of_ble_eq_true rfl⟩ hK hP hD hS hA (ci := 4) rfl rfl rfl [0, 1, 2, 3, 4, 5] [] (wr := []) rfl rfl (by decide) (by decide) (by decide) [0, 1, 2, 3, 4, 5] (fun _ => [(q, .inr (4, [.ref a1, .ref a2, .ref a3, .ref a4, .ref a5, .int (nI n0), .int nc, .int (bI ne), .int 0])), (a1, .inl (T 0, 8, .inl (fun k => nI (yv k / 4)))), (a2, .inl (T 2, 8, .inl (fun k => bI (isE (yv k))))), (a3, .inl (T 2, 8, .inl (fun k => bI (isB (yv k))))), (a4, .inl (T 0, 60, .inl (fun k => nI (tw k / 4)))), (a5, .inl (T 2, 60, .inl (fun k => bI (isE (tw k)))))]) (by decide) (fun _ => rfl) (fun _ H locs hP hD hS => ?_)
  have hP : va_P D zcl [(q, .inr (4, [.ref a1, .ref a2, .ref a3, .ref a4, .ref a5, .int (nI n0), .int nc, .int (bI ne), .int 0])), (a1, .inl (T 0, 8, .inl (fun k => nI (yv k / 4)))), (a2, .inl (T 2, 8, .inl (fun k => bI (isE (yv k))))), (a3, .inl (T 2, 8, .inl (fun k => bI (isB (yv k))))), (a4, .inl (T 0, 60, .inl (fun k => nI (tw k / 4)))), (a5, .inl (T 2, 60, .inl (fun k => bI (isE (tw k)))))] H := hP
  have hD : va_D A [(q, .inr (4, [.ref a1, .ref a2, .ref a3, .ref a4, .ref a5, .int (nI n0), .int nc, .int (bI ne), .int 0])), (a1, .inl (T 0, 8, .inl (fun k => nI (yv k / 4)))), (a2, .inl (T 2, 8, .inl (fun k => bI (isE (yv k))))), (a3, .inl (T 2, 8, .inl (fun k => bI (isB (yv k))))), (a4, .inl (T 0, 60, .inl (fun k => nI (tw k / 4)))), (a5, .inl (T 2, 60, .inl (fun k => bI (isE (tw k)))))] := hD
  refine zb_ne (tgt := 11) hx hb dX8_eightfold_6 (by decide) (fun h1 => ?_) (fun h1 => ?_)
  · refine lv_aload_n hx hb dX8_eightfold_11 rfl (lv_at hl 0 rfl) ?_
    refine va_get (D := D) (ci := 4) (v := .ref a2) (C := RX8) (T := TX8) (N := 9) hx hb hts i_X8 hown hK hP 0 rfl rfl 1 (by decide) (hts _ u735) (fun _ h9 => h9) rfl dX8_eightfold_12 ?_
    refine lv_iload_n hx hb dX8_eightfold_15 rfl (lv_at hl 1 rfl) ?_
    refine za_zald hx hb hK hP 2 rfl p (rfl) (by omega) (by decide) dX8_eightfold_16 ?_
    refine zb_eq (tgt := 29) hx hb dX8_eightfold_17 (by decide) (fun h2 => ?_) (fun h2 => ?_)
    · refine lv_bipush (v := 8) hx hb dX8_eightfold_29 (by decide) ?_
      refine lv_aload_n hx hb dX8_eightfold_31 rfl (lv_at hl 0 rfl) ?_
      refine va_get (D := D) (ci := 4) (v := .ref a1) (C := RX8) (T := TX8) (N := 9) hx hb hts i_X8 hown hK hP 0 rfl rfl 0 (by decide) (hts _ u734) (fun _ h9 => h9) rfl dX8_eightfold_32 ?_
      refine lv_iload_n hx hb dX8_eightfold_35 rfl (lv_at hl 1 rfl) ?_
      refine za_iald hx hb hK hP 1 rfl p (rfl) (by omega) (by decide) dX8_eightfold_36 ?_
      refine lv_imul hx hb dX8_eightfold_37 ?_
      refine zf_i (x' := nI (eig (yv p))) (by rw [eig_U h2]; exact pk_mul 8 (yv p / 4)) ?_
      refine lv_istore_n (lv' := [(3, .int (nI (eig (yv p)))), (0, .ref q), (1, .int (nI p)), (2, .int (nI p2))]) hx hb dX8_eightfold_38 rfl hl (by decide) rfl (fun ls hl => ?_)
      refine lv_iload_n hx hb dX8_eightfold_39 rfl (lv_at hl 0 rfl) ?_
      refine lv_ldc hx hb hown (hts _ u774) dX8_eightfold_40 ?_
      refine lv_icmp_le (tgt := 52) hx hb dX8_eightfold_42 (by decide) (fun h3 => ?_) (fun h3 => ?_)
      · exact absurd h3 (show ¬ nI (eig (yv p)) ≤ nI 65535 from nI_ge he (Nat.lt_trans (eig_lt (hy p)) (by decide)))
      · refine lv_aload_n hx hb dX8_eightfold_45 rfl (lv_at hl 1 rfl) ?_
        refine lv_iconst (v := 2) hx hb dX8_eightfold_46 (by decide) ?_
        refine va_put (D := D) (ci := 4) (v := .int 2) (ty := .int) (C := RX8) (T := TX8) (N := 9) hx hb hts i_X8 tyX8 tyX8_ok nmX8 hown hK hP hD hS 0 rfl rfl 8 (by decide) (hts _ u742) (fun _ h9 => h9) rfl (by decide +kernel) rfl rfl (Nat.le_of_ble_eq_true rfl) dX8_eightfold_47 (fun H locs hP hD hS => ?_)
        have hP : va_P D zcl [(q, .inr (4, [.ref a1, .ref a2, .ref a3, .ref a4, .ref a5, .int (nI n0), .int nc, .int (bI ne), .int 2])), (a1, .inl (T 0, 8, .inl (fun k => nI (yv k / 4)))), (a2, .inl (T 2, 8, .inl (fun k => bI (isE (yv k))))), (a3, .inl (T 2, 8, .inl (fun k => bI (isB (yv k))))), (a4, .inl (T 0, 60, .inl (fun k => nI (tw k / 4)))), (a5, .inl (T 2, 60, .inl (fun k => bI (isE (tw k)))))] H := hP
        have hD : va_D A [(q, .inr (4, [.ref a1, .ref a2, .ref a3, .ref a4, .ref a5, .int (nI n0), .int nc, .int (bI ne), .int 2])), (a1, .inl (T 0, 8, .inl (fun k => nI (yv k / 4)))), (a2, .inl (T 2, 8, .inl (fun k => bI (isE (yv k))))), (a3, .inl (T 2, 8, .inl (fun k => bI (isB (yv k))))), (a4, .inl (T 0, 60, .inl (fun k => nI (tw k / 4)))), (a5, .inl (T 2, 60, .inl (fun k => bI (isE (tw k)))))] := hD
        refine lv_iconst (v := 0) hx hb dX8_eightfold_50 (by decide) ?_
        exact zh_zret () hx hb hr hlocks dX8_eightfold_51 hP hD hS (rfl) (rfl)
    · refine lv_aload_n hx hb dX8_eightfold_20 rfl (lv_at hl 0 rfl) ?_
      refine va_get (D := D) (ci := 4) (v := .ref a1) (C := RX8) (T := TX8) (N := 9) hx hb hts i_X8 hown hK hP 0 rfl rfl 0 (by decide) (hts _ u734) (fun _ h9 => h9) rfl dX8_eightfold_21 ?_
      refine lv_iload_n hx hb dX8_eightfold_24 rfl (lv_at hl 1 rfl) ?_
      refine za_iald hx hb hK hP 1 rfl p (rfl) (by omega) (by decide) dX8_eightfold_25 ?_
      refine zf_i (x' := nI (eig (yv p))) (by rw [eig_E h2]) ?_
      refine lv_goto (tgt := 38) hx hb dX8_eightfold_26 (by decide) ?_
      refine lv_istore_n (lv' := [(3, .int (nI (eig (yv p)))), (0, .ref q), (1, .int (nI p)), (2, .int (nI p2))]) hx hb dX8_eightfold_38 rfl hl (by decide) rfl (fun ls hl => ?_)
      refine lv_iload_n hx hb dX8_eightfold_39 rfl (lv_at hl 0 rfl) ?_
      refine lv_ldc hx hb hown (hts _ u774) dX8_eightfold_40 ?_
      refine lv_icmp_le (tgt := 52) hx hb dX8_eightfold_42 (by decide) (fun h4 => ?_) (fun h4 => ?_)
      · exact absurd h4 (show ¬ nI (eig (yv p)) ≤ nI 65535 from nI_ge he (Nat.lt_trans (eig_lt (hy p)) (by decide)))
      · refine lv_aload_n hx hb dX8_eightfold_45 rfl (lv_at hl 1 rfl) ?_
        refine lv_iconst (v := 2) hx hb dX8_eightfold_46 (by decide) ?_
        refine va_put (D := D) (ci := 4) (v := .int 2) (ty := .int) (C := RX8) (T := TX8) (N := 9) hx hb hts i_X8 tyX8 tyX8_ok nmX8 hown hK hP hD hS 0 rfl rfl 8 (by decide) (hts _ u742) (fun _ h9 => h9) rfl (by decide +kernel) rfl rfl (Nat.le_of_ble_eq_true rfl) dX8_eightfold_47 (fun H locs hP hD hS => ?_)
        have hP : va_P D zcl [(q, .inr (4, [.ref a1, .ref a2, .ref a3, .ref a4, .ref a5, .int (nI n0), .int nc, .int (bI ne), .int 2])), (a1, .inl (T 0, 8, .inl (fun k => nI (yv k / 4)))), (a2, .inl (T 2, 8, .inl (fun k => bI (isE (yv k))))), (a3, .inl (T 2, 8, .inl (fun k => bI (isB (yv k))))), (a4, .inl (T 0, 60, .inl (fun k => nI (tw k / 4)))), (a5, .inl (T 2, 60, .inl (fun k => bI (isE (tw k)))))] H := hP
        have hD : va_D A [(q, .inr (4, [.ref a1, .ref a2, .ref a3, .ref a4, .ref a5, .int (nI n0), .int nc, .int (bI ne), .int 2])), (a1, .inl (T 0, 8, .inl (fun k => nI (yv k / 4)))), (a2, .inl (T 2, 8, .inl (fun k => bI (isE (yv k))))), (a3, .inl (T 2, 8, .inl (fun k => bI (isB (yv k))))), (a4, .inl (T 0, 60, .inl (fun k => nI (tw k / 4)))), (a5, .inl (T 2, 60, .inl (fun k => bI (isE (tw k)))))] := hD
        refine lv_iconst (v := 0) hx hb dX8_eightfold_50 (by decide) ?_
        exact zh_zret () hx hb hr hlocks dX8_eightfold_51 hP hD hS (rfl) (rfl)
  · exact absurd h1 (by decide)
set_option maxRecDepth 20000 in
theorem c_X8_reduced (l : Launch) (D : va_G) (T : Nat → ClassId) (q a1 a2 a3 a4 a5 : Nat) (yv tw : Nat → Nat) (n0 : Nat) (nc : Int32) (ne : Bool) (th : Int32) (e0 : Nat) (he : e0 < 2 ^ 48) : Hm l yX8_reduced cX8_reduced 5 (some FieldType.boolean) 0 0 0 D T [.ref q, .long (lN e0)] [(q, .inr (4, [.ref a1, .ref a2, .ref a3, .ref a4, .ref a5, .int (nI n0), .int nc, .int (bI ne), .int th])), (a1, .inl (T 0, 8, .inl (fun k => nI (yv k / 4)))), (a2, .inl (T 2, 8, .inl (fun k => bI (isE (yv k))))), (a3, .inl (T 2, 8, .inl (fun k => bI (isB (yv k))))), (a4, .inl (T 0, 60, .inl (fun k => nI (tw k / 4)))), (a5, .inl (T 2, 60, .inl (fun k => bI (isE (tw k)))))] (some (.int (bI (decide (rdC e0 ≤ 65535))))) (fun _ : Unit => [(q, .inr (4, [.ref a1, .ref a2, .ref a3, .ref a4, .ref a5, .int (nI n0), .int (rdN e0), .int (bI (rdE e0)), .int th])), (a1, .inl (T 0, 8, .inl (fun k => nI (yv k / 4)))), (a2, .inl (T 2, 8, .inl (fun k => bI (isE (yv k))))), (a3, .inl (T 2, 8, .inl (fun k => bI (isB (yv k))))), (a4, .inl (T 0, 60, .inl (fun k => nI (tw k / 4)))), (a5, .inl (T 2, 60, .inl (fun k => bI (isE (tw k)))))]) := by
  refine Hm.of (by decide) (Nat.le_of_ble_eq_true rfl) ?_
  intro zp ze s zm args below zmeth zc hx hb hr hml hown hin hts hlocks A hA hP hK hD hS ls hl
  have hl : lv_has ls 5 [(0, .ref q), (1, .long (lN e0))] := hl
  have hr0 : rdC e0 < 2 ^ 63 := by unfold rdC; split <;> omega
  refine lv_aload_n hx hb dX8_reduced_0 rfl (lv_at hl 0 rfl) ?_
  refine lv_lload_n hx hb dX8_reduced_1 rfl (lv_at hl 1 rfl) ?_
  refine lv_ldc2 hx hb hown (hts _ u876) dX8_reduced_2 ?_
  refine lv_lrem hx hb dX8_reduced_5 (by decide) ?_
  refine zf_l (x' := lN (e0 % 8)) (pk_lRem (b := 8) (by omega) (by decide) (by decide)) ?_
  refine lv_lconst (v := 0) hx hb dX8_reduced_6 (by decide) ?_
  refine zl_eq (tgt := 15) hx hb dX8_reduced_7 dX8_reduced_8 (by decide) (fun h1 => ?_) (fun h1 => ?_)
  · refine lv_iconst (v := 0) hx hb dX8_reduced_15 (by decide) ?_
    refine va_put (D := D) (ci := 4) (v := .int (bI false)) (ty := .boolean) (C := RX8) (T := TX8) (N := 9) hx hb hts i_X8 tyX8 tyX8_ok nmX8 hown hK hP hD hS 0 rfl rfl 7 (by decide) (hts _ u741) (fun _ h9 => h9) rfl (by decide +kernel) (bI_nar _) (bI_fit _) (Nat.le_of_ble_eq_true rfl) dX8_reduced_16 (fun H locs hP hD hS => ?_)
    have hP : va_P D zcl [(q, .inr (4, [.ref a1, .ref a2, .ref a3, .ref a4, .ref a5, .int (nI n0), .int nc, .int (bI false), .int th])), (a1, .inl (T 0, 8, .inl (fun k => nI (yv k / 4)))), (a2, .inl (T 2, 8, .inl (fun k => bI (isE (yv k))))), (a3, .inl (T 2, 8, .inl (fun k => bI (isB (yv k))))), (a4, .inl (T 0, 60, .inl (fun k => nI (tw k / 4)))), (a5, .inl (T 2, 60, .inl (fun k => bI (isE (tw k)))))] H := hP
    have hD : va_D A [(q, .inr (4, [.ref a1, .ref a2, .ref a3, .ref a4, .ref a5, .int (nI n0), .int nc, .int (bI false), .int th])), (a1, .inl (T 0, 8, .inl (fun k => nI (yv k / 4)))), (a2, .inl (T 2, 8, .inl (fun k => bI (isE (yv k))))), (a3, .inl (T 2, 8, .inl (fun k => bI (isB (yv k))))), (a4, .inl (T 0, 60, .inl (fun k => nI (tw k / 4)))), (a5, .inl (T 2, 60, .inl (fun k => bI (isE (tw k)))))] := hD
    refine lv_aload_n hx hb dX8_reduced_19 rfl (lv_at hl 0 rfl) ?_
    refine va_get (D := D) (ci := 4) (v := .int (bI false)) (C := RX8) (T := TX8) (N := 9) hx hb hts i_X8 hown hK hP 0 rfl rfl 7 (by decide) (hts _ u741) (fun _ h9 => h9) rfl dX8_reduced_20 ?_
    refine zb_eq (tgt := 30) hx hb dX8_reduced_23 (by decide) (fun h2 => ?_) (fun h2 => ?_)
    · refine lv_lload_n hx hb dX8_reduced_30 rfl (lv_at hl 1 rfl) ?_
      refine lv_ldc2 hx hb hown (hts _ u876) dX8_reduced_31 ?_
      refine lv_ldiv hx hb dX8_reduced_34 (by decide) ?_
      refine zf_l (x' := lN (rdC e0)) ((show lN e0 / lN 8 = _ by rw [pk_lDiv (by omega) (by decide) (by decide), rdC, if_pos ((pk_lEQ (b := 0) (by omega) (by decide)).mp h1)])) ?_
      refine lv_lstore_n (lv' := [(3, .long (lN (rdC e0))), (0, .ref q), (1, .long (lN e0))]) hx hb dX8_reduced_35 rfl hl (by decide) rfl (fun ls hl => ?_)
      refine lv_aload_n hx hb dX8_reduced_36 rfl (lv_at hl 1 rfl) ?_
      refine lv_lload_n hx hb dX8_reduced_37 rfl (lv_at hl 0 rfl) ?_
      refine lv_ldc2 hx hb hown (hts _ u851) dX8_reduced_38 ?_
      refine zl_le (tgt := 49) hx hb dX8_reduced_41 dX8_reduced_42 (by decide) (fun h3 => ?_) (fun h3 => ?_)
      · refine lv_lload_n hx hb dX8_reduced_49 rfl (lv_at hl 0 rfl) ?_
        refine lv_l2i hx hb dX8_reduced_50 rfl ?_
        refine zf_i (x' := nI (rdC e0)) (lN_i (rdC e0)) ?_
        refine va_put (D := D) (ci := 4) (v := .int (nI (rdC e0))) (ty := .int) (C := RX8) (T := TX8) (N := 9) hx hb hts i_X8 tyX8 tyX8_ok nmX8 hown hK hP hD hS 0 rfl rfl 6 (by decide) (hts _ u740) (fun _ h9 => h9) rfl (by decide +kernel) rfl rfl (Nat.le_of_ble_eq_true rfl) dX8_reduced_51 (fun H locs hP hD hS => ?_)
        have hP : va_P D zcl [(q, .inr (4, [.ref a1, .ref a2, .ref a3, .ref a4, .ref a5, .int (nI n0), .int (nI (rdC e0)), .int (bI false), .int th])), (a1, .inl (T 0, 8, .inl (fun k => nI (yv k / 4)))), (a2, .inl (T 2, 8, .inl (fun k => bI (isE (yv k))))), (a3, .inl (T 2, 8, .inl (fun k => bI (isB (yv k))))), (a4, .inl (T 0, 60, .inl (fun k => nI (tw k / 4)))), (a5, .inl (T 2, 60, .inl (fun k => bI (isE (tw k)))))] H := hP
        have hD : va_D A [(q, .inr (4, [.ref a1, .ref a2, .ref a3, .ref a4, .ref a5, .int (nI n0), .int (nI (rdC e0)), .int (bI false), .int th])), (a1, .inl (T 0, 8, .inl (fun k => nI (yv k / 4)))), (a2, .inl (T 2, 8, .inl (fun k => bI (isE (yv k))))), (a3, .inl (T 2, 8, .inl (fun k => bI (isB (yv k))))), (a4, .inl (T 0, 60, .inl (fun k => nI (tw k / 4)))), (a5, .inl (T 2, 60, .inl (fun k => bI (isE (tw k)))))] := hD
        refine lv_lload_n hx hb dX8_reduced_54 rfl (lv_at hl 0 rfl) ?_
        refine lv_ldc2 hx hb hown (hts _ u851) dX8_reduced_55 ?_
        refine zl_gt (tgt := 66) hx hb dX8_reduced_58 dX8_reduced_59 (by decide) (fun h4 => ?_) (fun h4 => ?_)
        · exact absurd h4 h3
        · refine lv_iconst (v := 1) hx hb dX8_reduced_62 (by decide) ?_
          refine lv_goto (tgt := 67) hx hb dX8_reduced_63 (by decide) ?_
          exact zh_zret () hx hb hr hlocks dX8_reduced_67 hP hD hS ((show (1 : Int32) = bI (decide (rdC e0 ≤ 65535)) by rw [decide_eq_true (Nat.not_lt.mp fun q => h3 ((pk_lLT (a := 65535) (by decide) hr0).mpr q))]; rfl)) (by rw [rdE, if_pos ((pk_lEQ (b := 0) (by omega) (by decide)).mp h1), rdN, if_pos (Nat.not_lt.mp fun q => h3 ((pk_lLT (a := 65535) (by decide) hr0).mpr q))])
      · refine lv_iconst (v := 0) hx hb dX8_reduced_45 (by decide) ?_
        refine lv_goto (tgt := 51) hx hb dX8_reduced_46 (by decide) ?_
        refine va_put (D := D) (ci := 4) (v := .int 0) (ty := .int) (C := RX8) (T := TX8) (N := 9) hx hb hts i_X8 tyX8 tyX8_ok nmX8 hown hK hP hD hS 0 rfl rfl 6 (by decide) (hts _ u740) (fun _ h9 => h9) rfl (by decide +kernel) rfl rfl (Nat.le_of_ble_eq_true rfl) dX8_reduced_51 (fun H locs hP hD hS => ?_)
        have hP : va_P D zcl [(q, .inr (4, [.ref a1, .ref a2, .ref a3, .ref a4, .ref a5, .int (nI n0), .int 0, .int (bI false), .int th])), (a1, .inl (T 0, 8, .inl (fun k => nI (yv k / 4)))), (a2, .inl (T 2, 8, .inl (fun k => bI (isE (yv k))))), (a3, .inl (T 2, 8, .inl (fun k => bI (isB (yv k))))), (a4, .inl (T 0, 60, .inl (fun k => nI (tw k / 4)))), (a5, .inl (T 2, 60, .inl (fun k => bI (isE (tw k)))))] H := hP
        have hD : va_D A [(q, .inr (4, [.ref a1, .ref a2, .ref a3, .ref a4, .ref a5, .int (nI n0), .int 0, .int (bI false), .int th])), (a1, .inl (T 0, 8, .inl (fun k => nI (yv k / 4)))), (a2, .inl (T 2, 8, .inl (fun k => bI (isE (yv k))))), (a3, .inl (T 2, 8, .inl (fun k => bI (isB (yv k))))), (a4, .inl (T 0, 60, .inl (fun k => nI (tw k / 4)))), (a5, .inl (T 2, 60, .inl (fun k => bI (isE (tw k)))))] := hD
        refine lv_lload_n hx hb dX8_reduced_54 rfl (lv_at hl 0 rfl) ?_
        refine lv_ldc2 hx hb hown (hts _ u851) dX8_reduced_55 ?_
        refine zl_gt (tgt := 66) hx hb dX8_reduced_58 dX8_reduced_59 (by decide) (fun h5 => ?_) (fun h5 => ?_)
        · refine lv_iconst (v := 0) hx hb dX8_reduced_66 (by decide) ?_
          exact zh_zret () hx hb hr hlocks dX8_reduced_67 hP hD hS ((show (0 : Int32) = bI (decide (rdC e0 ≤ 65535)) by rw [decide_eq_false (fun q => absurd ((pk_lLT (a := 65535) (by decide) hr0).mp h3) (Nat.not_lt.mpr q))]; rfl)) (by rw [rdE, if_pos ((pk_lEQ (b := 0) (by omega) (by decide)).mp h1), rdN, if_neg (fun q => absurd ((pk_lLT (a := 65535) (by decide) hr0).mp h3) (Nat.not_lt.mpr q))])
        · exact absurd h3 h5
    · exact absurd h2 (by decide)
  · refine lv_iconst (v := 1) hx hb dX8_reduced_11 (by decide) ?_
    refine lv_goto (tgt := 16) hx hb dX8_reduced_12 (by decide) ?_
    refine va_put (D := D) (ci := 4) (v := .int (bI true)) (ty := .boolean) (C := RX8) (T := TX8) (N := 9) hx hb hts i_X8 tyX8 tyX8_ok nmX8 hown hK hP hD hS 0 rfl rfl 7 (by decide) (hts _ u741) (fun _ h9 => h9) rfl (by decide +kernel) (bI_nar _) (bI_fit _) (Nat.le_of_ble_eq_true rfl) dX8_reduced_16 (fun H locs hP hD hS => ?_)
    have hP : va_P D zcl [(q, .inr (4, [.ref a1, .ref a2, .ref a3, .ref a4, .ref a5, .int (nI n0), .int nc, .int (bI true), .int th])), (a1, .inl (T 0, 8, .inl (fun k => nI (yv k / 4)))), (a2, .inl (T 2, 8, .inl (fun k => bI (isE (yv k))))), (a3, .inl (T 2, 8, .inl (fun k => bI (isB (yv k))))), (a4, .inl (T 0, 60, .inl (fun k => nI (tw k / 4)))), (a5, .inl (T 2, 60, .inl (fun k => bI (isE (tw k)))))] H := hP
    have hD : va_D A [(q, .inr (4, [.ref a1, .ref a2, .ref a3, .ref a4, .ref a5, .int (nI n0), .int nc, .int (bI true), .int th])), (a1, .inl (T 0, 8, .inl (fun k => nI (yv k / 4)))), (a2, .inl (T 2, 8, .inl (fun k => bI (isE (yv k))))), (a3, .inl (T 2, 8, .inl (fun k => bI (isB (yv k))))), (a4, .inl (T 0, 60, .inl (fun k => nI (tw k / 4)))), (a5, .inl (T 2, 60, .inl (fun k => bI (isE (tw k)))))] := hD
    refine lv_aload_n hx hb dX8_reduced_19 rfl (lv_at hl 0 rfl) ?_
    refine va_get (D := D) (ci := 4) (v := .int (bI true)) (C := RX8) (T := TX8) (N := 9) hx hb hts i_X8 hown hK hP 0 rfl rfl 7 (by decide) (hts _ u741) (fun _ h9 => h9) rfl dX8_reduced_20 ?_
    refine zb_eq (tgt := 30) hx hb dX8_reduced_23 (by decide) (fun h6 => ?_) (fun h6 => ?_)
    · exact absurd h6 (by decide)
    · refine lv_lload_n hx hb dX8_reduced_26 rfl (lv_at hl 1 rfl) ?_
      refine zf_l (x' := lN (rdC e0)) ((by rw [rdC, if_neg (fun q => h1 ((pk_lEQ (b := 0) (by omega) (by decide)).mpr q))])) ?_
      refine lv_goto (tgt := 35) hx hb dX8_reduced_27 (by decide) ?_
      refine lv_lstore_n (lv' := [(3, .long (lN (rdC e0))), (0, .ref q), (1, .long (lN e0))]) hx hb dX8_reduced_35 rfl hl (by decide) rfl (fun ls hl => ?_)
      refine lv_aload_n hx hb dX8_reduced_36 rfl (lv_at hl 1 rfl) ?_
      refine lv_lload_n hx hb dX8_reduced_37 rfl (lv_at hl 0 rfl) ?_
      refine lv_ldc2 hx hb hown (hts _ u851) dX8_reduced_38 ?_
      refine zl_le (tgt := 49) hx hb dX8_reduced_41 dX8_reduced_42 (by decide) (fun h7 => ?_) (fun h7 => ?_)
      · refine lv_lload_n hx hb dX8_reduced_49 rfl (lv_at hl 0 rfl) ?_
        refine lv_l2i hx hb dX8_reduced_50 rfl ?_
        refine zf_i (x' := nI (rdC e0)) (lN_i (rdC e0)) ?_
        refine va_put (D := D) (ci := 4) (v := .int (nI (rdC e0))) (ty := .int) (C := RX8) (T := TX8) (N := 9) hx hb hts i_X8 tyX8 tyX8_ok nmX8 hown hK hP hD hS 0 rfl rfl 6 (by decide) (hts _ u740) (fun _ h9 => h9) rfl (by decide +kernel) rfl rfl (Nat.le_of_ble_eq_true rfl) dX8_reduced_51 (fun H locs hP hD hS => ?_)
        have hP : va_P D zcl [(q, .inr (4, [.ref a1, .ref a2, .ref a3, .ref a4, .ref a5, .int (nI n0), .int (nI (rdC e0)), .int (bI true), .int th])), (a1, .inl (T 0, 8, .inl (fun k => nI (yv k / 4)))), (a2, .inl (T 2, 8, .inl (fun k => bI (isE (yv k))))), (a3, .inl (T 2, 8, .inl (fun k => bI (isB (yv k))))), (a4, .inl (T 0, 60, .inl (fun k => nI (tw k / 4)))), (a5, .inl (T 2, 60, .inl (fun k => bI (isE (tw k)))))] H := hP
        have hD : va_D A [(q, .inr (4, [.ref a1, .ref a2, .ref a3, .ref a4, .ref a5, .int (nI n0), .int (nI (rdC e0)), .int (bI true), .int th])), (a1, .inl (T 0, 8, .inl (fun k => nI (yv k / 4)))), (a2, .inl (T 2, 8, .inl (fun k => bI (isE (yv k))))), (a3, .inl (T 2, 8, .inl (fun k => bI (isB (yv k))))), (a4, .inl (T 0, 60, .inl (fun k => nI (tw k / 4)))), (a5, .inl (T 2, 60, .inl (fun k => bI (isE (tw k)))))] := hD
        refine lv_lload_n hx hb dX8_reduced_54 rfl (lv_at hl 0 rfl) ?_
        refine lv_ldc2 hx hb hown (hts _ u851) dX8_reduced_55 ?_
        refine zl_gt (tgt := 66) hx hb dX8_reduced_58 dX8_reduced_59 (by decide) (fun h8 => ?_) (fun h8 => ?_)
        · exact absurd h8 h7
        · refine lv_iconst (v := 1) hx hb dX8_reduced_62 (by decide) ?_
          refine lv_goto (tgt := 67) hx hb dX8_reduced_63 (by decide) ?_
          exact zh_zret () hx hb hr hlocks dX8_reduced_67 hP hD hS ((show (1 : Int32) = bI (decide (rdC e0 ≤ 65535)) by rw [decide_eq_true (Nat.not_lt.mp fun q => h7 ((pk_lLT (a := 65535) (by decide) hr0).mpr q))]; rfl)) (by rw [rdE, if_neg (fun q => h1 ((pk_lEQ (b := 0) (by omega) (by decide)).mpr q)), rdN, if_pos (Nat.not_lt.mp fun q => h7 ((pk_lLT (a := 65535) (by decide) hr0).mpr q))])
      · refine lv_iconst (v := 0) hx hb dX8_reduced_45 (by decide) ?_
        refine lv_goto (tgt := 51) hx hb dX8_reduced_46 (by decide) ?_
        refine va_put (D := D) (ci := 4) (v := .int 0) (ty := .int) (C := RX8) (T := TX8) (N := 9) hx hb hts i_X8 tyX8 tyX8_ok nmX8 hown hK hP hD hS 0 rfl rfl 6 (by decide) (hts _ u740) (fun _ h9 => h9) rfl (by decide +kernel) rfl rfl (Nat.le_of_ble_eq_true rfl) dX8_reduced_51 (fun H locs hP hD hS => ?_)
        have hP : va_P D zcl [(q, .inr (4, [.ref a1, .ref a2, .ref a3, .ref a4, .ref a5, .int (nI n0), .int 0, .int (bI true), .int th])), (a1, .inl (T 0, 8, .inl (fun k => nI (yv k / 4)))), (a2, .inl (T 2, 8, .inl (fun k => bI (isE (yv k))))), (a3, .inl (T 2, 8, .inl (fun k => bI (isB (yv k))))), (a4, .inl (T 0, 60, .inl (fun k => nI (tw k / 4)))), (a5, .inl (T 2, 60, .inl (fun k => bI (isE (tw k)))))] H := hP
        have hD : va_D A [(q, .inr (4, [.ref a1, .ref a2, .ref a3, .ref a4, .ref a5, .int (nI n0), .int 0, .int (bI true), .int th])), (a1, .inl (T 0, 8, .inl (fun k => nI (yv k / 4)))), (a2, .inl (T 2, 8, .inl (fun k => bI (isE (yv k))))), (a3, .inl (T 2, 8, .inl (fun k => bI (isB (yv k))))), (a4, .inl (T 0, 60, .inl (fun k => nI (tw k / 4)))), (a5, .inl (T 2, 60, .inl (fun k => bI (isE (tw k)))))] := hD
        refine lv_lload_n hx hb dX8_reduced_54 rfl (lv_at hl 0 rfl) ?_
        refine lv_ldc2 hx hb hown (hts _ u851) dX8_reduced_55 ?_
        refine zl_gt (tgt := 66) hx hb dX8_reduced_58 dX8_reduced_59 (by decide) (fun h9 => ?_) (fun h9 => ?_)
        · refine lv_iconst (v := 0) hx hb dX8_reduced_66 (by decide) ?_
          exact zh_zret () hx hb hr hlocks dX8_reduced_67 hP hD hS ((show (0 : Int32) = bI (decide (rdC e0 ≤ 65535)) by rw [decide_eq_false (fun q => absurd ((pk_lLT (a := 65535) (by decide) hr0).mp h7) (Nat.not_lt.mpr q))]; rfl)) (by rw [rdE, if_neg (fun q => h1 ((pk_lEQ (b := 0) (by omega) (by decide)).mpr q)), rdN, if_neg (fun q => absurd ((pk_lLT (a := 65535) (by decide) hr0).mp h7) (Nat.not_lt.mpr q))])
        · exact absurd h7 h9
