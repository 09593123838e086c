/-! The class Cubeyard: the tower, the theorem, all. -/
theorem eig_pos {v : Nat} (h : ¬ nI (v / 4) = 0) : 0 < eig v := by
  have h1 : ¬ v / 4 = 0 := fun q => h (by rw [q]; rfl)
  unfold eig
  split <;> omega
theorem eig_cz {v : Nat} (hv : v < 262144) (h : nI (v / 4) = 0) : eig v = 0 := by
  have h1 : v / 4 = 0 := (nI_eq (b := 0) (by omega) (by decide)).mp h
  unfold eig
  split <;> omega
theorem rd0 {e0 : Nat} (h : e0 < 2 ^ 62) : m_X5_reduced (lN e0) 0 = if rdC e0 ≤ 65535 then nI (rdV e0 false) else (-1) := mv_red h false
set_option maxRecDepth 20000 in
theorem c_needCubes (l : Launch) (D : va_G) (T : Nat → ClassId) (x vs es o t c1 f1 : Nat) (tw : Nat → Nat) (n0 : Nat) (hn : n0 ≤ 60) (hn0 : 0 < n0) : Hm l yX7_needCubesInTower cX7_needCubesInTower 1 none 1 0 0 D T [.ref x] [(x, .inr (3, [.ref vs, .ref es, .ref o, .ref t])), (o, .inr (1, [.ref c1, .ref f1, .int (nI n0), .int (nI (htN tw n0))])), (c1, .inl (T 0, 60, .inl (fun k => nI (tw k)))), (f1, .inl (T 0, 60, .inl (fun k => nI (fN (eig (tw k))))))] none (fun _ : Unit => [(x, .inr (3, [.ref vs, .ref es, .ref o, .ref t])), (o, .inr (1, [.ref c1, .ref f1, .int (nI n0), .int (nI (htN tw n0))])), (c1, .inl (T 0, 60, .inl (fun k => nI (tw k)))), (f1, .inl (T 0, 60, .inl (fun k => nI (fN (eig (tw k))))))]) := by
  refine Hm.of (by decide) (Nat.le_of_ble_eq_true rfl) ?_
  intro zp ze s zm args below zmeth zc hx hb hr hml hown hin hts hlocks A hA hP hK hD hS ls hl
  have hl : lv_has ls 1 [(0, .ref x)] := hl
  refine lv_aload_n hx hb dX7_needCubesInTower_0 rfl (lv_at hl 0 rfl) ?_
  refine va_get (D := D) (ci := 3) (v := .ref o) (C := RX7) (T := TX7) (N := 4) hx hb hts i_X7 hown hK hP 0 rfl rfl 2 (by decide) (hts _ u92) (fun _ h9 => h9) rfl dX7_needCubesInTower_1 ?_
  refine zh_v (T := T) hx hb hml hown hts k_X7_235 (c_X4_isEmpty l D T o c1 f1 tw n0 (hn)) ⟨by decide, by decide⟩ rfl hl.1 [] rfl (Nat.le_of_ble_eq_true rfl) dX7_needCubesInTower_4 ⟨Nat.le_of_ble_eq_true rfl, Nat.le_of_ble_eq_true rfl⟩ hK hP hD hS hA (ci := 1) rfl rfl rfl [1, 2, 3] [0] (wr := [(x, .inr (3, [.ref vs, .ref es, .ref o, .ref t]))]) rfl rfl (by decide) (by decide) (by decide) [0, 1, 2, 3] (fun _ => [(x, .inr (3, [.ref vs, .ref es, .ref o, .ref t])), (o, .inr (1, [.ref c1, .ref f1, .int (nI n0), .int (nI (htN tw n0))])), (c1, .inl (T 0, 60, .inl (fun k => nI (tw k)))), (f1, .inl (T 0, 60, .inl (fun k => nI (fN (eig (tw k))))))]) (by decide) (fun _ => rfl) (fun _ H locs hP hD hS => ?_)
  have hP : va_P D zcl [(x, .inr (3, [.ref vs, .ref es, .ref o, .ref t])), (o, .inr (1, [.ref c1, .ref f1, .int (nI n0), .int (nI (htN tw n0))])), (c1, .inl (T 0, 60, .inl (fun k => nI (tw k)))), (f1, .inl (T 0, 60, .inl (fun k => nI (fN (eig (tw k))))))] H := hP
  have hD : va_D A [(x, .inr (3, [.ref vs, .ref es, .ref o, .ref t])), (o, .inr (1, [.ref c1, .ref f1, .int (nI n0), .int (nI (htN tw n0))])), (c1, .inl (T 0, 60, .inl (fun k => nI (tw k)))), (f1, .inl (T 0, 60, .inl (fun k => nI (fN (eig (tw k))))))] := hD
  refine zb_eq (tgt := 20) hx hb dX7_needCubesInTower_7 (by decide) (fun h1 => ?_) (fun h1 => ?_)
  · exact zh_vret () hx hb hr hlocks dX7_needCubesInTower_20 hP hD hS (rfl)
  · exact absurd ((decide_eq_false (by omega)).symm.trans h1) (by decide)
set_option maxRecDepth 20000 in
theorem t_needCubes (l : Launch) (hlf : l.stackTraces = false) (D : va_G) (T : Nat → ClassId) (x vs es o t c1 f1 : Nat) (tw : Nat → Nat) (n0 : Nat) (hn : n0 = 0) : Tm l yX7_needCubesInTower cX7_needCubesInTower 1 none 6 D T [.ref x] [(x, .inr (3, [.ref vs, .ref es, .ref o, .ref t])), (o, .inr (1, [.ref c1, .ref f1, .int (nI n0), .int (nI (htN tw n0))])), (c1, .inl (T 0, 60, .inl (fun k => nI (tw k)))), (f1, .inl (T 0, 60, .inl (fun k => nI (fN (eig (tw k))))))] "java/util/NoSuchElementException" := by
  refine Tm.of (by decide) (Nat.le_of_ble_eq_true rfl) ?_
  intro zp ze s zm args below zmeth zc hx hb hr hml hown hts hlocks hout A hA hP hK hD hS hZ ls hl
  have hl : lv_has ls 1 [(0, .ref x)] := hl
  refine lv_aload_n hx hb dX7_needCubesInTower_0 rfl (lv_at hl 0 rfl) ?_
  refine va_get (D := D) (ci := 3) (v := .ref o) (C := RX7) (T := TX7) (N := 4) hx hb hts i_X7 hown hK hP 0 rfl rfl 2 (by decide) (hts _ u92) (fun _ h9 => h9) rfl dX7_needCubesInTower_1 ?_
  refine zh_v (T := T) hx hb hml hown hts k_X7_235 (c_X4_isEmpty l D T o c1 f1 tw n0 (by omega)) ⟨by decide, by decide⟩ rfl hl.1 [] rfl (Nat.le_of_ble_eq_true rfl) dX7_needCubesInTower_4 ⟨Nat.le_of_ble_eq_true rfl, Nat.le_of_ble_eq_true rfl⟩ hK hP hD hS hA (ci := 1) rfl rfl rfl [1, 2, 3] [0] (wr := [(x, .inr (3, [.ref vs, .ref es, .ref o, .ref t]))]) rfl rfl (by decide) (by decide) (by decide) [0, 1, 2, 3] (fun _ => [(x, .inr (3, [.ref vs, .ref es, .ref o, .ref t])), (o, .inr (1, [.ref c1, .ref f1, .int (nI n0), .int (nI (htN tw n0))])), (c1, .inl (T 0, 60, .inl (fun k => nI (tw k)))), (f1, .inl (T 0, 60, .inl (fun k => nI (fN (eig (tw k))))))]) (by decide) (fun _ => rfl) (fun _ H locs hP hD hS => ?_)
  have hP : va_P D zcl [(x, .inr (3, [.ref vs, .ref es, .ref o, .ref t])), (o, .inr (1, [.ref c1, .ref f1, .int (nI n0), .int (nI (htN tw n0))])), (c1, .inl (T 0, 60, .inl (fun k => nI (tw k)))), (f1, .inl (T 0, 60, .inl (fun k => nI (fN (eig (tw k))))))] H := hP
  have hD : va_D A [(x, .inr (3, [.ref vs, .ref es, .ref o, .ref t])), (o, .inr (1, [.ref c1, .ref f1, .int (nI n0), .int (nI (htN tw n0))])), (c1, .inl (T 0, 60, .inl (fun k => nI (tw k)))), (f1, .inl (T 0, 60, .inl (fun k => nI (fN (eig (tw k))))))] := hD
  refine zb_eq (tgt := 20) hx hb dX7_needCubesInTower_7 (by decide) (fun h1 => ?_) (fun h1 => ?_)
  · exact absurd ((decide_eq_true hn).symm.trans h1) (by decide)
  · exact zt_throwX hx hb hlf hml hown hts hlocks hout (by decide +kernel) u690 u34 (List.mem_of_getElem? (i := 12) rfl) xg_242 xn_242 xo_242 hP hD hS hZ hl.1 (by decide) (Nat.le_of_ble_eq_true rfl) dX7_needCubesInTower_10 dX7_needCubesInTower_13 dX7_needCubesInTower_14 dX7_needCubesInTower_16 dX7_needCubesInTower_19
set_option maxRecDepth 20000 in
theorem c_X7_lay_ok (l : Launch) (D : va_G) (T : Nat → ClassId) (x vs es o t c1 f1 : Nat) (yv tw : Nat → Nat) (n0 : Nat) (p : Nat) (hp : p < 8) (hv1 : isB (yv p) = false) (hc1 : 0 < yv p / 4) (hn : n0 < 60) (hy : ∀ k, yv k < 262144) : Hm l yX7_lay cX7_lay 2 (some FieldType.int) 3 0 0 D T [.ref x, .int (nI p)] [(x, .inr (3, [.ref vs, .ref es, .ref o, .ref t])), (vs, .inl (T 0, 8, .inl (fun k => nI (yv k)))), (es, .inl (T 1, 8, .inr (.inl (fun k => edge (yv k))))), (o, .inr (1, [.ref c1, .ref f1, .int (nI n0), .int (nI (htN tw n0))])), (c1, .inl (T 0, 60, .inl (fun k => nI (tw k)))), (f1, .inl (T 0, 60, .inl (fun k => nI (fN (eig (tw k))))))] (some (.int (nI (htN (up tw n0 (yv p)) (n0 + 1))))) (fun _ : Unit => [(x, .inr (3, [.ref vs, .ref es, .ref o, .ref t])), (vs, .inl (T 0, 8, .inl (fun k => nI (yv k)))), (es, .inl (T 1, 8, .inr (.inl (fun k => edge (yv k))))), (o, .inr (1, [.ref c1, .ref f1, .int (nI (n0 + 1)), .int (nI (htN (up tw n0 (yv p)) (n0 + 1)))])), (c1, .inl (T 0, 60, .inl (fun k => nI ((up tw n0 (yv p)) k)))), (f1, .inl (T 0, 60, .inl (fun k => nI (fN (eig ((up tw n0 (yv p)) k))))))]) := by
  refine Hm.of (by decide) (Nat.le_of_ble_eq_true rfl) ?_
  intro zp ze s zm args below zmeth zc hx hb hr hml hown hin hts hlocks A hA hP hK hD hS ls hl
  have hl : lv_has ls 2 [(0, .ref x), (1, .int (nI p))] := hl
  refine lv_iload_n hx hb dX7_lay_0 rfl (lv_at hl 1 rfl) ?_
  refine zp_callv hx hb hml hown hts k_X7_31 (c_needPlace l (nI p) (is_ok hp)) ⟨by decide, by decide⟩ rfl hl.1 [] rfl (Nat.le_of_ble_eq_true rfl) dX7_lay_1 ⟨Nat.le_of_ble_eq_true rfl, Nat.le_of_ble_eq_true rfl⟩ ?_
  refine lv_aload_n hx hb dX7_lay_4 rfl (lv_at hl 0 rfl) ?_
  refine va_get (D := D) (ci := 3) (v := .ref vs) (C := RX7) (T := TX7) (N := 4) hx hb hts i_X7 hown hK hP 0 rfl rfl 0 (by decide) (hts _ u90) (fun _ h9 => h9) rfl dX7_lay_5 ?_
  refine lv_iload_n hx hb dX7_lay_8 rfl (lv_at hl 1 rfl) ?_
  refine za_iald hx hb hK hP 1 rfl p (rfl) (by omega) (by decide) dX7_lay_9 ?_
  refine zp_callv hx hb hml hown hts k_X7_142 (c_needAboveZero l (yv p) (hy p) ⟨hv1, Nat.pos_iff_ne_zero.mp hc1⟩) ⟨by decide, by decide⟩ rfl hl.1 [] rfl (Nat.le_of_ble_eq_true rfl) dX7_lay_10 ⟨Nat.le_of_ble_eq_true rfl, Nat.le_of_ble_eq_true rfl⟩ ?_
  refine lv_aload_n hx hb dX7_lay_13 rfl (lv_at hl 0 rfl) ?_
  refine va_get (D := D) (ci := 3) (v := .ref o) (C := RX7) (T := TX7) (N := 4) hx hb hts i_X7 hown hK hP 0 rfl rfl 2 (by decide) (hts _ u92) (fun _ h9 => h9) rfl dX7_lay_14 ?_
  refine zh_v (T := T) hx hb hml hown hts k_X7_167 (c_X4_isFull l D T o c1 f1 tw n0 (by omega)) ⟨by decide, by decide⟩ rfl hl.1 [] rfl (Nat.le_of_ble_eq_true rfl) dX7_lay_17 ⟨Nat.le_of_ble_eq_true rfl, Nat.le_of_ble_eq_true rfl⟩ hK hP hD hS hA (ci := 1) rfl rfl rfl [3, 4, 5] [0, 1, 2] (wr := [(x, .inr (3, [.ref vs, .ref es, .ref o, .ref t])), (vs, .inl (T 0, 8, .inl (fun k => nI (yv k)))), (es, .inl (T 1, 8, .inr (.inl (fun k => edge (yv k)))))]) rfl rfl (by decide) (by decide) (by decide) [0, 1, 2, 3, 4, 5] (fun _ => [(x, .inr (3, [.ref vs, .ref es, .ref o, .ref t])), (vs, .inl (T 0, 8, .inl (fun k => nI (yv k)))), (es, .inl (T 1, 8, .inr (.inl (fun k => edge (yv k))))), (o, .inr (1, [.ref c1, .ref f1, .int (nI n0), .int (nI (htN tw n0))])), (c1, .inl (T 0, 60, .inl (fun k => nI (tw k)))), (f1, .inl (T 0, 60, .inl (fun k => nI (fN (eig (tw k))))))]) (by decide) (fun _ => rfl) (fun _ H locs hP hD hS => ?_)
  have hP : va_P D zcl [(x, .inr (3, [.ref vs, .ref es, .ref o, .ref t])), (vs, .inl (T 0, 8, .inl (fun k => nI (yv k)))), (es, .inl (T 1, 8, .inr (.inl (fun k => edge (yv k))))), (o, .inr (1, [.ref c1, .ref f1, .int (nI n0), .int (nI (htN tw n0))])), (c1, .inl (T 0, 60, .inl (fun k => nI (tw k)))), (f1, .inl (T 0, 60, .inl (fun k => nI (fN (eig (tw k))))))] H := hP
  have hD : va_D A [(x, .inr (3, [.ref vs, .ref es, .ref o, .ref t])), (vs, .inl (T 0, 8, .inl (fun k => nI (yv k)))), (es, .inl (T 1, 8, .inr (.inl (fun k => edge (yv k))))), (o, .inr (1, [.ref c1, .ref f1, .int (nI n0), .int (nI (htN tw n0))])), (c1, .inl (T 0, 60, .inl (fun k => nI (tw k)))), (f1, .inl (T 0, 60, .inl (fun k => nI (fN (eig (tw k))))))] := hD
  refine zb_eq (tgt := 33) hx hb dX7_lay_20 (by decide) (fun h1 => ?_) (fun h1 => ?_)
  · refine lv_aload_n hx hb dX7_lay_33 rfl (lv_at hl 0 rfl) ?_
    refine va_get (D := D) (ci := 3) (v := .ref o) (C := RX7) (T := TX7) (N := 4) hx hb hts i_X7 hown hK hP 0 rfl rfl 2 (by decide) (hts _ u92) (fun _ h9 => h9) rfl dX7_lay_34 ?_
    refine lv_aload_n hx hb dX7_lay_37 rfl (lv_at hl 0 rfl) ?_
    refine va_get (D := D) (ci := 3) (v := .ref vs) (C := RX7) (T := TX7) (N := 4) hx hb hts i_X7 hown hK hP 0 rfl rfl 0 (by decide) (hts _ u90) (fun _ h9 => h9) rfl dX7_lay_38 ?_
    refine lv_iload_n hx hb dX7_lay_41 rfl (lv_at hl 1 rfl) ?_
    refine za_iald hx hb hK hP 1 rfl p (rfl) (by omega) (by decide) dX7_lay_42 ?_
    refine lv_aload_n hx hb dX7_lay_43 rfl (lv_at hl 0 rfl) ?_
    refine va_get (D := D) (ci := 3) (v := .ref es) (C := RX7) (T := TX7) (N := 4) hx hb hts i_X7 hown hK hP 0 rfl rfl 1 (by decide) (hts _ u91) (fun _ h9 => h9) rfl dX7_lay_44 ?_
    refine lv_iload_n hx hb dX7_lay_47 rfl (lv_at hl 1 rfl) ?_
    refine za_lald hx hb hK hP 2 rfl p (rfl) (by omega) (by decide) dX7_lay_48 ?_
    refine zp_call hx hb hml hown hts k_X7_56 (c_X2_fineOf l (edge (yv p))) ⟨by decide, by decide⟩ rfl hl.1 [.int (nI (yv p)), .ref o] rfl (Nat.le_of_ble_eq_true rfl) dX7_lay_49 ⟨by decide, by decide⟩ ?_
    refine zf_i (x' := nI (fN (eig (yv p)))) ((ed_fine (hy p)).trans (fI_above hv1)) ?_
    refine zh_v (T := T) hx hb hml hown hts k_X7_176 (c_X4_push l D T o c1 f1 tw n0 (yv p) (by omega)) ⟨by decide, by decide⟩ rfl hl.1 [] rfl (Nat.le_of_ble_eq_true rfl) dX7_lay_52 ⟨Nat.le_of_ble_eq_true rfl, Nat.le_of_ble_eq_true rfl⟩ hK hP hD hS hA (ci := 1) rfl rfl rfl [3, 4, 5] [0, 1, 2] (wr := [(x, .inr (3, [.ref vs, .ref es, .ref o, .ref t])), (vs, .inl (T 0, 8, .inl (fun k => nI (yv k)))), (es, .inl (T 1, 8, .inr (.inl (fun k => edge (yv k)))))]) rfl rfl (by decide) (by decide) (by decide) [0, 1, 2, 3, 4, 5] (fun _ => [(x, .inr (3, [.ref vs, .ref es, .ref o, .ref t])), (vs, .inl (T 0, 8, .inl (fun k => nI (yv k)))), (es, .inl (T 1, 8, .inr (.inl (fun k => edge (yv k))))), (o, .inr (1, [.ref c1, .ref f1, .int (nI (n0 + 1)), .int (nI (htN (up tw n0 (yv p)) (n0 + 1)))])), (c1, .inl (T 0, 60, .inl (fun k => nI ((up tw n0 (yv p)) k)))), (f1, .inl (T 0, 60, .inl (fun k => nI (fN (eig ((up tw n0 (yv p)) k))))))]) (by decide) (fun _ => rfl) (fun _ H locs hP hD hS => ?_)
    have hP : va_P D zcl [(x, .inr (3, [.ref vs, .ref es, .ref o, .ref t])), (vs, .inl (T 0, 8, .inl (fun k => nI (yv k)))), (es, .inl (T 1, 8, .inr (.inl (fun k => edge (yv k))))), (o, .inr (1, [.ref c1, .ref f1, .int (nI (n0 + 1)), .int (nI (htN (up tw n0 (yv p)) (n0 + 1)))])), (c1, .inl (T 0, 60, .inl (fun k => nI ((up tw n0 (yv p)) k)))), (f1, .inl (T 0, 60, .inl (fun k => nI (fN (eig ((up tw n0 (yv p)) k))))))] H := hP
    have hD : va_D A [(x, .inr (3, [.ref vs, .ref es, .ref o, .ref t])), (vs, .inl (T 0, 8, .inl (fun k => nI (yv k)))), (es, .inl (T 1, 8, .inr (.inl (fun k => edge (yv k))))), (o, .inr (1, [.ref c1, .ref f1, .int (nI (n0 + 1)), .int (nI (htN (up tw n0 (yv p)) (n0 + 1)))])), (c1, .inl (T 0, 60, .inl (fun k => nI ((up tw n0 (yv p)) k)))), (f1, .inl (T 0, 60, .inl (fun k => nI (fN (eig ((up tw n0 (yv p)) k))))))] := hD
    refine lv_aload_n hx hb dX7_lay_55 rfl (lv_at hl 0 rfl) ?_
    refine va_get (D := D) (ci := 3) (v := .ref o) (C := RX7) (T := TX7) (N := 4) hx hb hts i_X7 hown hK hP 0 rfl rfl 2 (by decide) (hts _ u92) (fun _ h9 => h9) rfl dX7_lay_56 ?_
    refine zh_v (T := T) hx hb hml hown hts k_X7_179 (c_X4_height l D T o c1 f1 (up tw n0 (yv p)) (n0 + 1) ) ⟨by decide, by decide⟩ rfl hl.1 [] rfl (Nat.le_of_ble_eq_true rfl) dX7_lay_59 ⟨Nat.le_of_ble_eq_true rfl, Nat.le_of_ble_eq_true rfl⟩ hK hP hD hS hA (ci := 1) rfl rfl rfl [3, 4, 5] [0, 1, 2] (wr := [(x, .inr (3, [.ref vs, .ref es, .ref o, .ref t])), (vs, .inl (T 0, 8, .inl (fun k => nI (yv k)))), (es, .inl (T 1, 8, .inr (.inl (fun k => edge (yv k)))))]) rfl rfl (by decide) (by decide) (by decide) [0, 1, 2, 3, 4, 5] (fun _ => [(x, .inr (3, [.ref vs, .ref es, .ref o, .ref t])), (vs, .inl (T 0, 8, .inl (fun k => nI (yv k)))), (es, .inl (T 1, 8, .inr (.inl (fun k => edge (yv k))))), (o, .inr (1, [.ref c1, .ref f1, .int (nI (n0 + 1)), .int (nI (htN (up tw n0 (yv p)) (n0 + 1)))])), (c1, .inl (T 0, 60, .inl (fun k => nI ((up tw n0 (yv p)) k)))), (f1, .inl (T 0, 60, .inl (fun k => nI (fN (eig ((up tw n0 (yv p)) k))))))]) (by decide) (fun _ => rfl) (fun _ H locs hP hD hS => ?_)
    have hP : va_P D zcl [(x, .inr (3, [.ref vs, .ref es, .ref o, .ref t])), (vs, .inl (T 0, 8, .inl (fun k => nI (yv k)))), (es, .inl (T 1, 8, .inr (.inl (fun k => edge (yv k))))), (o, .inr (1, [.ref c1, .ref f1, .int (nI (n0 + 1)), .int (nI (htN (up tw n0 (yv p)) (n0 + 1)))])), (c1, .inl (T 0, 60, .inl (fun k => nI ((up tw n0 (yv p)) k)))), (f1, .inl (T 0, 60, .inl (fun k => nI (fN (eig ((up tw n0 (yv p)) k))))))] H := hP
    have hD : va_D A [(x, .inr (3, [.ref vs, .ref es, .ref o, .ref t])), (vs, .inl (T 0, 8, .inl (fun k => nI (yv k)))), (es, .inl (T 1, 8, .inr (.inl (fun k => edge (yv k))))), (o, .inr (1, [.ref c1, .ref f1, .int (nI (n0 + 1)), .int (nI (htN (up tw n0 (yv p)) (n0 + 1)))])), (c1, .inl (T 0, 60, .inl (fun k => nI ((up tw n0 (yv p)) k)))), (f1, .inl (T 0, 60, .inl (fun k => nI (fN (eig ((up tw n0 (yv p)) k))))))] := hD
    exact zh_iret () hx hb hr hlocks dX7_lay_62 hP hD hS (rfl) (rfl)
  · exact absurd ((decide_eq_false (by omega)).symm.trans h1) (by decide)
set_option maxRecDepth 20000 in
theorem t_X7_lay_zero (l : Launch) (hlf : l.stackTraces = false) (D : va_G) (T : Nat → ClassId) (x vs es o t c1 f1 : Nat) (yv tw : Nat → Nat) (n0 : Nat) (p : Nat) (hp : p < 8) (hv0 : ¬ (isB (yv p) = false ∧ ¬ yv p / 4 = 0)) (hy : ∀ k, yv k < 262144) : Tm l yX7_lay cX7_lay 2 (some FieldType.int) 7 D T [.ref x, .int (nI p)] [(x, .inr (3, [.ref vs, .ref es, .ref o, .ref t])), (vs, .inl (T 0, 8, .inl (fun k => nI (yv k)))), (es, .inl (T 1, 8, .inr (.inl (fun k => edge (yv k))))), (o, .inr (1, [.ref c1, .ref f1, .int (nI n0), .int (nI (htN tw n0))])), (c1, .inl (T 0, 60, .inl (fun k => nI (tw k)))), (f1, .inl (T 0, 60, .inl (fun k => nI (fN (eig (tw k))))))] "java/lang/IllegalArgumentException" := by
  refine Tm.of (by decide) (Nat.le_of_ble_eq_true rfl) ?_
  intro zp ze s zm args below zmeth zc hx hb hr hml hown hts hlocks hout A hA hP hK hD hS hZ ls hl
  have hl : lv_has ls 2 [(0, .ref x), (1, .int (nI p))] := hl
  refine lv_iload_n hx hb dX7_lay_0 rfl (lv_at hl 1 rfl) ?_
  refine zp_callv hx hb hml hown hts k_X7_31 (c_needPlace l (nI p) (is_ok hp)) ⟨by decide, by decide⟩ rfl hl.1 [] rfl (Nat.le_of_ble_eq_true rfl) dX7_lay_1 ⟨Nat.le_of_ble_eq_true rfl, Nat.le_of_ble_eq_true rfl⟩ ?_
  refine lv_aload_n hx hb dX7_lay_4 rfl (lv_at hl 0 rfl) ?_
  refine va_get (D := D) (ci := 3) (v := .ref vs) (C := RX7) (T := TX7) (N := 4) hx hb hts i_X7 hown hK hP 0 rfl rfl 0 (by decide) (hts _ u90) (fun _ h9 => h9) rfl dX7_lay_5 ?_
  refine lv_iload_n hx hb dX7_lay_8 rfl (lv_at hl 1 rfl) ?_
  refine za_iald hx hb hK hP 1 rfl p (rfl) (by omega) (by decide) dX7_lay_9 ?_
  refine zt_s (T := T) hx hb hml hown hts k_X7_142 (t_needAboveZero l hlf D T (yv p) (hy p) hv0) ⟨by decide, by decide⟩ rfl hl.1 [] rfl (Nat.le_of_ble_eq_true rfl) dX7_lay_10 ⟨Nat.le_of_ble_eq_true rfl, Nat.le_of_ble_eq_true rfl⟩ hK hP hD hS hA hZ [] [0, 1, 2, 3, 4, 5] (wr := [(x, .inr (3, [.ref vs, .ref es, .ref o, .ref t])), (vs, .inl (T 0, 8, .inl (fun k => nI (yv k)))), (es, .inl (T 1, 8, .inr (.inl (fun k => edge (yv k))))), (o, .inr (1, [.ref c1, .ref f1, .int (nI n0), .int (nI (htN tw n0))])), (c1, .inl (T 0, 60, .inl (fun k => nI (tw k)))), (f1, .inl (T 0, 60, .inl (fun k => nI (fN (eig (tw k))))))]) rfl rfl (by decide) (by decide) (by decide) [0, 1, 2, 3, 4, 5] (by decide) rfl (fun ce q9 H locs hP hD hS hce hcv hcl => ?_)
  exact zt_out hlocks hout hP hD hS hce hcv hcl
set_option maxRecDepth 20000 in
theorem t_X7_lay_full (l : Launch) (hlf : l.stackTraces = false) (D : va_G) (T : Nat → ClassId) (x vs es o t c1 f1 : Nat) (yv tw : Nat → Nat) (n0 : Nat) (p : Nat) (hp : p < 8) (hv1 : isB (yv p) = false) (hc1 : 0 < yv p / 4) (hn : n0 = 60) (hy : ∀ k, yv k < 262144) : Tm l yX7_lay cX7_lay 2 (some FieldType.int) 7 D T [.ref x, .int (nI p)] [(x, .inr (3, [.ref vs, .ref es, .ref o, .ref t])), (vs, .inl (T 0, 8, .inl (fun k => nI (yv k)))), (es, .inl (T 1, 8, .inr (.inl (fun k => edge (yv k))))), (o, .inr (1, [.ref c1, .ref f1, .int (nI n0), .int (nI (htN tw n0))])), (c1, .inl (T 0, 60, .inl (fun k => nI (tw k)))), (f1, .inl (T 0, 60, .inl (fun k => nI (fN (eig (tw k))))))] "java/lang/IllegalStateException" := by
  refine Tm.of (by decide) (Nat.le_of_ble_eq_true rfl) ?_
  intro zp ze s zm args below zmeth zc hx hb hr hml hown hts hlocks hout A hA hP hK hD hS hZ ls hl
  have hl : lv_has ls 2 [(0, .ref x), (1, .int (nI p))] := hl
  refine lv_iload_n hx hb dX7_lay_0 rfl (lv_at hl 1 rfl) ?_
  refine zp_callv hx hb hml hown hts k_X7_31 (c_needPlace l (nI p) (is_ok hp)) ⟨by decide, by decide⟩ rfl hl.1 [] rfl (Nat.le_of_ble_eq_true rfl) dX7_lay_1 ⟨Nat.le_of_ble_eq_true rfl, Nat.le_of_ble_eq_true rfl⟩ ?_
  refine lv_aload_n hx hb dX7_lay_4 rfl (lv_at hl 0 rfl) ?_
  refine va_get (D := D) (ci := 3) (v := .ref vs) (C := RX7) (T := TX7) (N := 4) hx hb hts i_X7 hown hK hP 0 rfl rfl 0 (by decide) (hts _ u90) (fun _ h9 => h9) rfl dX7_lay_5 ?_
  refine lv_iload_n hx hb dX7_lay_8 rfl (lv_at hl 1 rfl) ?_
  refine za_iald hx hb hK hP 1 rfl p (rfl) (by omega) (by decide) dX7_lay_9 ?_
  refine zp_callv hx hb hml hown hts k_X7_142 (c_needAboveZero l (yv p) (hy p) ⟨hv1, Nat.pos_iff_ne_zero.mp hc1⟩) ⟨by decide, by decide⟩ rfl hl.1 [] rfl (Nat.le_of_ble_eq_true rfl) dX7_lay_10 ⟨Nat.le_of_ble_eq_true rfl, Nat.le_of_ble_eq_true rfl⟩ ?_
  refine lv_aload_n hx hb dX7_lay_13 rfl (lv_at hl 0 rfl) ?_
  refine va_get (D := D) (ci := 3) (v := .ref o) (C := RX7) (T := TX7) (N := 4) hx hb hts i_X7 hown hK hP 0 rfl rfl 2 (by decide) (hts _ u92) (fun _ h9 => h9) rfl dX7_lay_14 ?_
  refine zh_v (T := T) hx hb hml hown hts k_X7_167 (c_X4_isFull l D T o c1 f1 tw n0 (by omega)) ⟨by decide, by decide⟩ rfl hl.1 [] rfl (Nat.le_of_ble_eq_true rfl) dX7_lay_17 ⟨Nat.le_of_ble_eq_true rfl, Nat.le_of_ble_eq_true rfl⟩ hK hP hD hS hA (ci := 1) rfl rfl rfl [3, 4, 5] [0, 1, 2] (wr := [(x, .inr (3, [.ref vs, .ref es, .ref o, .ref t])), (vs, .inl (T 0, 8, .inl (fun k => nI (yv k)))), (es, .inl (T 1, 8, .inr (.inl (fun k => edge (yv k)))))]) rfl rfl (by decide) (by decide) (by decide) [0, 1, 2, 3, 4, 5] (fun _ => [(x, .inr (3, [.ref vs, .ref es, .ref o, .ref t])), (vs, .inl (T 0, 8, .inl (fun k => nI (yv k)))), (es, .inl (T 1, 8, .inr (.inl (fun k => edge (yv k))))), (o, .inr (1, [.ref c1, .ref f1, .int (nI n0), .int (nI (htN tw n0))])), (c1, .inl (T 0, 60, .inl (fun k => nI (tw k)))), (f1, .inl (T 0, 60, .inl (fun k => nI (fN (eig (tw k))))))]) (by decide) (fun _ => rfl) (fun _ H locs hP hD hS => ?_)
  have hP : va_P D zcl [(x, .inr (3, [.ref vs, .ref es, .ref o, .ref t])), (vs, .inl (T 0, 8, .inl (fun k => nI (yv k)))), (es, .inl (T 1, 8, .inr (.inl (fun k => edge (yv k))))), (o, .inr (1, [.ref c1, .ref f1, .int (nI n0), .int (nI (htN tw n0))])), (c1, .inl (T 0, 60, .inl (fun k => nI (tw k)))), (f1, .inl (T 0, 60, .inl (fun k => nI (fN (eig (tw k))))))] H := hP
  have hD : va_D A [(x, .inr (3, [.ref vs, .ref es, .ref o, .ref t])), (vs, .inl (T 0, 8, .inl (fun k => nI (yv k)))), (es, .inl (T 1, 8, .inr (.inl (fun k => edge (yv k))))), (o, .inr (1, [.ref c1, .ref f1, .int (nI n0), .int (nI (htN tw n0))])), (c1, .inl (T 0, 60, .inl (fun k => nI (tw k)))), (f1, .inl (T 0, 60, .inl (fun k => nI (fN (eig (tw k))))))] := hD
  refine zb_eq (tgt := 33) hx hb dX7_lay_20 (by decide) (fun h1 => ?_) (fun h1 => ?_)
  · exact absurd ((decide_eq_true (by omega)).symm.trans h1) (by decide)
  · exact zt_throw hx hb hlf hml hown hts hlocks hout (by decide +kernel) u656 u33 (List.mem_of_getElem? (i := 11) rfl) xg_175 xn_175 xo_175 hP hD hS hZ hl.1 (by decide) (Nat.le_of_ble_eq_true rfl) dX7_lay_23 dX7_lay_26 dX7_lay_27 dX7_lay_29 dX7_lay_32
set_option maxRecDepth 20000 in
theorem t_X7_lay_no (l : Launch) (hlf : l.stackTraces = false) (D : va_G) (T : Nat → ClassId) (x vs es o t c1 f1 : Nat) (yv tw : Nat → Nat) (n0 : Nat) (x0 : Int32) (hx0 : m_X8_is x0 = false) : Tm l yX7_lay cX7_lay 2 (some FieldType.int) 7 D T [.ref x, .int x0] [(x, .inr (3, [.ref vs, .ref es, .ref o, .ref t])), (vs, .inl (T 0, 8, .inl (fun k => nI (yv k)))), (es, .inl (T 1, 8, .inr (.inl (fun k => edge (yv k))))), (o, .inr (1, [.ref c1, .ref f1, .int (nI n0), .int (nI (htN tw n0))])), (c1, .inl (T 0, 60, .inl (fun k => nI (tw k)))), (f1, .inl (T 0, 60, .inl (fun k => nI (fN (eig (tw k))))))] "java/lang/IndexOutOfBoundsException" := by
  refine Tm.of (by decide) (Nat.le_of_ble_eq_true rfl) ?_
  intro zp ze s zm args below zmeth zc hx hb hr hml hown hts hlocks hout A hA hP hK hD hS hZ ls hl
  have hl : lv_has ls 2 [(0, .ref x), (1, .int x0)] := hl
  refine lv_iload_n hx hb dX7_lay_0 rfl (lv_at hl 1 rfl) ?_
  refine zt_s (T := T) hx hb hml hown hts k_X7_31 (t_needPlace l hlf D T x0 hx0) ⟨by decide, by decide⟩ rfl hl.1 [] rfl (Nat.le_of_ble_eq_true rfl) dX7_lay_1 ⟨Nat.le_of_ble_eq_true rfl, Nat.le_of_ble_eq_true rfl⟩ hK hP hD hS hA hZ [] [0, 1, 2, 3, 4, 5] (wr := [(x, .inr (3, [.ref vs, .ref es, .ref o, .ref t])), (vs, .inl (T 0, 8, .inl (fun k => nI (yv k)))), (es, .inl (T 1, 8, .inr (.inl (fun k => edge (yv k))))), (o, .inr (1, [.ref c1, .ref f1, .int (nI n0), .int (nI (htN tw n0))])), (c1, .inl (T 0, 60, .inl (fun k => nI (tw k)))), (f1, .inl (T 0, 60, .inl (fun k => nI (fN (eig (tw k))))))]) rfl rfl (by decide) (by decide) (by decide) [0, 1, 2, 3, 4, 5] (by decide) rfl (fun ce q9 H locs hP hD hS hce hcv hcl => ?_)
  exact zt_out hlocks hout hP hD hS hce hcv hcl
set_option maxRecDepth 20000 in
theorem t_X7_lift_no (l : Launch) (hlf : l.stackTraces = false) (D : va_G) (T : Nat → ClassId) (x vs es o t c1 f1 : Nat) (yv tw : Nat → Nat) (n0 : Nat) (x0 : Int32) (hx0 : m_X8_is x0 = false) : Tm l yX7_lift cX7_lift 2 (some FieldType.int) 7 D T [.ref x, .int x0] [(x, .inr (3, [.ref vs, .ref es, .ref o, .ref t])), (vs, .inl (T 0, 8, .inl (fun k => nI (yv k)))), (es, .inl (T 1, 8, .inr (.inl (fun k => edge (yv k))))), (o, .inr (1, [.ref c1, .ref f1, .int (nI n0), .int (nI (htN tw n0))])), (c1, .inl (T 0, 60, .inl (fun k => nI (tw k)))), (f1, .inl (T 0, 60, .inl (fun k => nI (fN (eig (tw k))))))] "java/lang/IndexOutOfBoundsException" := by
  refine Tm.of (by decide) (Nat.le_of_ble_eq_true rfl) ?_
  intro zp ze s zm args below zmeth zc hx hb hr hml hown hts hlocks hout A hA hP hK hD hS hZ ls hl
  have hl : lv_has ls 2 [(0, .ref x), (1, .int x0)] := hl
  refine lv_iload_n hx hb dX7_lift_0 rfl (lv_at hl 1 rfl) ?_
  refine zt_s (T := T) hx hb hml hown hts k_X7_31 (t_needPlace l hlf D T x0 hx0) ⟨by decide, by decide⟩ rfl hl.1 [] rfl (Nat.le_of_ble_eq_true rfl) dX7_lift_1 ⟨Nat.le_of_ble_eq_true rfl, Nat.le_of_ble_eq_true rfl⟩ hK hP hD hS hA hZ [] [0, 1, 2, 3, 4, 5] (wr := [(x, .inr (3, [.ref vs, .ref es, .ref o, .ref t])), (vs, .inl (T 0, 8, .inl (fun k => nI (yv k)))), (es, .inl (T 1, 8, .inr (.inl (fun k => edge (yv k))))), (o, .inr (1, [.ref c1, .ref f1, .int (nI n0), .int (nI (htN tw n0))])), (c1, .inl (T 0, 60, .inl (fun k => nI (tw k)))), (f1, .inl (T 0, 60, .inl (fun k => nI (fN (eig (tw k))))))]) rfl rfl (by decide) (by decide) (by decide) [0, 1, 2, 3, 4, 5] (by decide) rfl (fun ce q9 H locs hP hD hS hce hcv hcl => ?_)
  exact zt_out hlocks hout hP hD hS hce hcv hcl
set_option maxRecDepth 20000 in
theorem t_X7_melt_no (l : Launch) (hlf : l.stackTraces = false) (D : va_G) (T : Nat → ClassId) (x vs es o t c1 f1 : Nat) (yv tw : Nat → Nat) (n0 : Nat) (x0 : Int32) (hx0 : m_X8_is x0 = false) : Tm l yX7_melt cX7_melt 4 (some FieldType.int) 7 D T [.ref x, .int x0] [(x, .inr (3, [.ref vs, .ref es, .ref o, .ref t])), (vs, .inl (T 0, 8, .inl (fun k => nI (yv k)))), (es, .inl (T 1, 8, .inr (.inl (fun k => edge (yv k))))), (o, .inr (1, [.ref c1, .ref f1, .int (nI n0), .int (nI (htN tw n0))])), (c1, .inl (T 0, 60, .inl (fun k => nI (tw k)))), (f1, .inl (T 0, 60, .inl (fun k => nI (fN (eig (tw k))))))] "java/lang/IndexOutOfBoundsException" := by
  refine Tm.of (by decide) (Nat.le_of_ble_eq_true rfl) ?_
  intro zp ze s zm args below zmeth zc hx hb hr hml hown hts hlocks hout A hA hP hK hD hS hZ ls hl
  have hl : lv_has ls 4 [(0, .ref x), (1, .int x0)] := hl
  refine lv_iload_n hx hb dX7_melt_0 rfl (lv_at hl 1 rfl) ?_
  refine zt_s (T := T) hx hb hml hown hts k_X7_31 (t_needPlace l hlf D T x0 hx0) ⟨by decide, by decide⟩ rfl hl.1 [] rfl (Nat.le_of_ble_eq_true rfl) dX7_melt_1 ⟨Nat.le_of_ble_eq_true rfl, Nat.le_of_ble_eq_true rfl⟩ hK hP hD hS hA hZ [] [0, 1, 2, 3, 4, 5] (wr := [(x, .inr (3, [.ref vs, .ref es, .ref o, .ref t])), (vs, .inl (T 0, 8, .inl (fun k => nI (yv k)))), (es, .inl (T 1, 8, .inr (.inl (fun k => edge (yv k))))), (o, .inr (1, [.ref c1, .ref f1, .int (nI n0), .int (nI (htN tw n0))])), (c1, .inl (T 0, 60, .inl (fun k => nI (tw k)))), (f1, .inl (T 0, 60, .inl (fun k => nI (fN (eig (tw k))))))]) rfl rfl (by decide) (by decide) (by decide) [0, 1, 2, 3, 4, 5] (by decide) rfl (fun ce q9 H locs hP hD hS hce hcv hcl => ?_)
  exact zt_out hlocks hout hP hD hS hce hcv hcl
set_option maxRecDepth 20000 in
theorem c_X7_lift_ok (l : Launch) (D : va_G) (T : Nat → ClassId) (x vs es o t c1 f1 : Nat) (yv tw : Nat → Nat) (n0 : Nat) (p : Nat) (hp : p < 8) (n1 : Nat) (hn : n1 < 60) (ht : ∀ k, tw k < 262144)  : Hm l yX7_lift cX7_lift 2 (some FieldType.int) 5 0 0 D T [.ref x, .int (nI p)] [(x, .inr (3, [.ref vs, .ref es, .ref o, .ref t])), (vs, .inl (T 0, 8, .inl (fun k => nI (yv k)))), (es, .inl (T 1, 8, .inr (.inl (fun k => edge (yv k))))), (o, .inr (1, [.ref c1, .ref f1, .int (nI (n1 + 1)), .int (nI (htN tw (n1 + 1)))])), (c1, .inl (T 0, 60, .inl (fun k => nI (tw k)))), (f1, .inl (T 0, 60, .inl (fun k => nI (fN (eig (tw k))))))] (some (.int (nI (htN tw n1)))) (fun _ : Unit => [(x, .inr (3, [.ref vs, .ref es, .ref o, .ref t])), (vs, .inl (T 0, 8, .inl (fun k => nI ((up yv p (tw n1)) k)))), (es, .inl (T 1, 8, .inr (.inl (fun k => edge ((up yv p (tw n1)) k))))), (o, .inr (1, [.ref c1, .ref f1, .int (nI n1), .int (nI (htN tw n1))])), (c1, .inl (T 0, 60, .inl (fun k => nI (tw k)))), (f1, .inl (T 0, 60, .inl (fun k => nI (fN (eig (tw k))))))]) := by
  refine Hm.of (by decide) (Nat.le_of_ble_eq_true rfl) ?_
  intro zp ze s zm args below zmeth zc hx hb hr hml hown hin hts hlocks A hA hP hK hD hS ls hl
  have hl : lv_has ls 2 [(0, .ref x), (1, .int (nI p))] := hl
  refine lv_iload_n hx hb dX7_lift_0 rfl (lv_at hl 1 rfl) ?_
  refine zp_callv hx hb hml hown hts k_X7_31 (c_needPlace l (nI p) (is_ok hp)) ⟨by decide, by decide⟩ rfl hl.1 [] rfl (Nat.le_of_ble_eq_true rfl) dX7_lift_1 ⟨Nat.le_of_ble_eq_true rfl, Nat.le_of_ble_eq_true rfl⟩ ?_
  refine lv_aload_n hx hb dX7_lift_4 rfl (lv_at hl 0 rfl) ?_
  refine zh_v (T := T) hx hb hml hown hts k_X7_183 (c_needCubes l D T x vs es o t c1 f1 tw (n1 + 1) (by omega) (by omega)) ⟨by decide, by decide⟩ rfl hl.1 [] rfl (Nat.le_of_ble_eq_true rfl) dX7_lift_5 ⟨Nat.le_of_ble_eq_true rfl, Nat.le_of_ble_eq_true rfl⟩ hK hP hD hS hA (ci := 3) rfl rfl rfl [0, 3, 4, 5] [1, 2] (wr := [(vs, .inl (T 0, 8, .inl (fun k => nI (yv k)))), (es, .inl (T 1, 8, .inr (.inl (fun k => edge (yv k)))))]) rfl rfl (by decide) (by decide) (by decide) [2, 0, 1, 3, 4, 5] (fun _ => [(x, .inr (3, [.ref vs, .ref es, .ref o, .ref t])), (vs, .inl (T 0, 8, .inl (fun k => nI (yv k)))), (es, .inl (T 1, 8, .inr (.inl (fun k => edge (yv k))))), (o, .inr (1, [.ref c1, .ref f1, .int (nI (n1 + 1)), .int (nI (htN tw (n1 + 1)))])), (c1, .inl (T 0, 60, .inl (fun k => nI (tw k)))), (f1, .inl (T 0, 60, .inl (fun k => nI (fN (eig (tw k))))))]) (by decide) (fun _ => rfl) (fun _ H locs hP hD hS => ?_)
  have hP : va_P D zcl [(x, .inr (3, [.ref vs, .ref es, .ref o, .ref t])), (vs, .inl (T 0, 8, .inl (fun k => nI (yv k)))), (es, .inl (T 1, 8, .inr (.inl (fun k => edge (yv k))))), (o, .inr (1, [.ref c1, .ref f1, .int (nI (n1 + 1)), .int (nI (htN tw (n1 + 1)))])), (c1, .inl (T 0, 60, .inl (fun k => nI (tw k)))), (f1, .inl (T 0, 60, .inl (fun k => nI (fN (eig (tw k))))))] H := hP
  have hD : va_D A [(x, .inr (3, [.ref vs, .ref es, .ref o, .ref t])), (vs, .inl (T 0, 8, .inl (fun k => nI (yv k)))), (es, .inl (T 1, 8, .inr (.inl (fun k => edge (yv k))))), (o, .inr (1, [.ref c1, .ref f1, .int (nI (n1 + 1)), .int (nI (htN tw (n1 + 1)))])), (c1, .inl (T 0, 60, .inl (fun k => nI (tw k)))), (f1, .inl (T 0, 60, .inl (fun k => nI (fN (eig (tw k))))))] := hD
  refine lv_aload_n hx hb dX7_lift_8 rfl (lv_at hl 0 rfl) ?_
  refine lv_iload_n hx hb dX7_lift_9 rfl (lv_at hl 1 rfl) ?_
  refine lv_aload_n hx hb dX7_lift_10 rfl (lv_at hl 0 rfl) ?_
  refine va_get (D := D) (ci := 3) (v := .ref o) (C := RX7) (T := TX7) (N := 4) hx hb hts i_X7 hown hK hP 0 rfl rfl 2 (by decide) (hts _ u92) (fun _ h9 => h9) rfl dX7_lift_11 ?_
  refine zh_v (T := T) hx hb hml hown hts k_X7_186 (c_X4_pop l D T o c1 f1 tw 0 n1 (by omega)) ⟨by decide, by decide⟩ rfl hl.1 [.int (nI p), .ref x] rfl (Nat.le_of_ble_eq_true rfl) dX7_lift_14 ⟨Nat.le_of_ble_eq_true rfl, Nat.le_of_ble_eq_true rfl⟩ hK hP hD hS hA (ci := 1) rfl rfl rfl [3, 4, 5] [0, 1, 2] (wr := [(x, .inr (3, [.ref vs, .ref es, .ref o, .ref t])), (vs, .inl (T 0, 8, .inl (fun k => nI (yv k)))), (es, .inl (T 1, 8, .inr (.inl (fun k => edge (yv k)))))]) rfl rfl (by decide) (by decide) (by decide) [0, 1, 2, 3, 4, 5] (fun _ => [(x, .inr (3, [.ref vs, .ref es, .ref o, .ref t])), (vs, .inl (T 0, 8, .inl (fun k => nI (yv k)))), (es, .inl (T 1, 8, .inr (.inl (fun k => edge (yv k))))), (o, .inr (1, [.ref c1, .ref f1, .int (nI n1), .int (nI (htN tw n1))])), (c1, .inl (T 0, 60, .inl (fun k => nI (tw k)))), (f1, .inl (T 0, 60, .inl (fun k => nI (fN (eig (tw k))))))]) (by decide) (fun _ => rfl) (fun _ H locs hP hD hS => ?_)
  have hP : va_P D zcl [(x, .inr (3, [.ref vs, .ref es, .ref o, .ref t])), (vs, .inl (T 0, 8, .inl (fun k => nI (yv k)))), (es, .inl (T 1, 8, .inr (.inl (fun k => edge (yv k))))), (o, .inr (1, [.ref c1, .ref f1, .int (nI n1), .int (nI (htN tw n1))])), (c1, .inl (T 0, 60, .inl (fun k => nI (tw k)))), (f1, .inl (T 0, 60, .inl (fun k => nI (fN (eig (tw k))))))] H := hP
  have hD : va_D A [(x, .inr (3, [.ref vs, .ref es, .ref o, .ref t])), (vs, .inl (T 0, 8, .inl (fun k => nI (yv k)))), (es, .inl (T 1, 8, .inr (.inl (fun k => edge (yv k))))), (o, .inr (1, [.ref c1, .ref f1, .int (nI n1), .int (nI (htN tw n1))])), (c1, .inl (T 0, 60, .inl (fun k => nI (tw k)))), (f1, .inl (T 0, 60, .inl (fun k => nI (fN (eig (tw k))))))] := hD
  refine zh_v (T := T) hx hb hml hown hts k_X7_52 (c_X7_write l D T x vs es o t yv p hp (tw n1) (ht n1)) ⟨by decide, by decide⟩ rfl hl.1 [] rfl (Nat.le_of_ble_eq_true rfl) dX7_lift_17 ⟨Nat.le_of_ble_eq_true rfl, Nat.le_of_ble_eq_true rfl⟩ hK hP hD hS hA (ci := 3) rfl rfl rfl [0, 1, 2] [3, 4, 5] (wr := [(o, .inr (1, [.ref c1, .ref f1, .int (nI n1), .int (nI (htN tw n1))])), (c1, .inl (T 0, 60, .inl (fun k => nI (tw k)))), (f1, .inl (T 0, 60, .inl (fun k => nI (fN (eig (tw k))))))]) rfl rfl (by decide) (by decide) (by decide) [3, 4, 5, 0, 1, 2] (fun _ => [(x, .inr (3, [.ref vs, .ref es, .ref o, .ref t])), (vs, .inl (T 0, 8, .inl (fun k => nI ((up yv p (tw n1)) k)))), (es, .inl (T 1, 8, .inr (.inl (fun k => edge ((up yv p (tw n1)) k))))), (o, .inr (1, [.ref c1, .ref f1, .int (nI n1), .int (nI (htN tw n1))])), (c1, .inl (T 0, 60, .inl (fun k => nI (tw k)))), (f1, .inl (T 0, 60, .inl (fun k => nI (fN (eig (tw k))))))]) (by decide) (fun _ => rfl) (fun _ H locs hP hD hS => ?_)
  have hP : va_P D zcl [(x, .inr (3, [.ref vs, .ref es, .ref o, .ref t])), (vs, .inl (T 0, 8, .inl (fun k => nI ((up yv p (tw n1)) k)))), (es, .inl (T 1, 8, .inr (.inl (fun k => edge ((up yv p (tw n1)) k))))), (o, .inr (1, [.ref c1, .ref f1, .int (nI n1), .int (nI (htN tw n1))])), (c1, .inl (T 0, 60, .inl (fun k => nI (tw k)))), (f1, .inl (T 0, 60, .inl (fun k => nI (fN (eig (tw k))))))] H := hP
  have hD : va_D A [(x, .inr (3, [.ref vs, .ref es, .ref o, .ref t])), (vs, .inl (T 0, 8, .inl (fun k => nI ((up yv p (tw n1)) k)))), (es, .inl (T 1, 8, .inr (.inl (fun k => edge ((up yv p (tw n1)) k))))), (o, .inr (1, [.ref c1, .ref f1, .int (nI n1), .int (nI (htN tw n1))])), (c1, .inl (T 0, 60, .inl (fun k => nI (tw k)))), (f1, .inl (T 0, 60, .inl (fun k => nI (fN (eig (tw k))))))] := hD
  refine lv_aload_n hx hb dX7_lift_20 rfl (lv_at hl 0 rfl) ?_
  refine va_get (D := D) (ci := 3) (v := .ref o) (C := RX7) (T := TX7) (N := 4) hx hb hts i_X7 hown hK hP 0 rfl rfl 2 (by decide) (hts _ u92) (fun _ h9 => h9) rfl dX7_lift_21 ?_
  refine zh_v (T := T) hx hb hml hown hts k_X7_179 (c_X4_height l D T o c1 f1 tw n1 ) ⟨by decide, by decide⟩ rfl hl.1 [] rfl (Nat.le_of_ble_eq_true rfl) dX7_lift_24 ⟨Nat.le_of_ble_eq_true rfl, Nat.le_of_ble_eq_true rfl⟩ hK hP hD hS hA (ci := 1) rfl rfl rfl [3, 4, 5] [0, 1, 2] (wr := [(x, .inr (3, [.ref vs, .ref es, .ref o, .ref t])), (vs, .inl (T 0, 8, .inl (fun k => nI ((up yv p (tw n1)) k)))), (es, .inl (T 1, 8, .inr (.inl (fun k => edge ((up yv p (tw n1)) k)))))]) rfl rfl (by decide) (by decide) (by decide) [0, 1, 2, 3, 4, 5] (fun _ => [(x, .inr (3, [.ref vs, .ref es, .ref o, .ref t])), (vs, .inl (T 0, 8, .inl (fun k => nI ((up yv p (tw n1)) k)))), (es, .inl (T 1, 8, .inr (.inl (fun k => edge ((up yv p (tw n1)) k))))), (o, .inr (1, [.ref c1, .ref f1, .int (nI n1), .int (nI (htN tw n1))])), (c1, .inl (T 0, 60, .inl (fun k => nI (tw k)))), (f1, .inl (T 0, 60, .inl (fun k => nI (fN (eig (tw k))))))]) (by decide) (fun _ => rfl) (fun _ H locs hP hD hS => ?_)
  have hP : va_P D zcl [(x, .inr (3, [.ref vs, .ref es, .ref o, .ref t])), (vs, .inl (T 0, 8, .inl (fun k => nI ((up yv p (tw n1)) k)))), (es, .inl (T 1, 8, .inr (.inl (fun k => edge ((up yv p (tw n1)) k))))), (o, .inr (1, [.ref c1, .ref f1, .int (nI n1), .int (nI (htN tw n1))])), (c1, .inl (T 0, 60, .inl (fun k => nI (tw k)))), (f1, .inl (T 0, 60, .inl (fun k => nI (fN (eig (tw k))))))] H := hP
  have hD : va_D A [(x, .inr (3, [.ref vs, .ref es, .ref o, .ref t])), (vs, .inl (T 0, 8, .inl (fun k => nI ((up yv p (tw n1)) k)))), (es, .inl (T 1, 8, .inr (.inl (fun k => edge ((up yv p (tw n1)) k))))), (o, .inr (1, [.ref c1, .ref f1, .int (nI n1), .int (nI (htN tw n1))])), (c1, .inl (T 0, 60, .inl (fun k => nI (tw k)))), (f1, .inl (T 0, 60, .inl (fun k => nI (fN (eig (tw k))))))] := hD
  exact zh_iret () hx hb hr hlocks dX7_lift_27 hP hD hS (rfl) (rfl)
set_option maxRecDepth 20000 in
theorem t_X7_lift_none (l : Launch) (hlf : l.stackTraces = false) (D : va_G) (T : Nat → ClassId) (x vs es o t c1 f1 : Nat) (yv tw : Nat → Nat) (n0 : Nat) (p : Nat) (hp : p < 8) (hn : n0 = 0) : Tm l yX7_lift cX7_lift 2 (some FieldType.int) 7 D T [.ref x, .int (nI p)] [(x, .inr (3, [.ref vs, .ref es, .ref o, .ref t])), (vs, .inl (T 0, 8, .inl (fun k => nI (yv k)))), (es, .inl (T 1, 8, .inr (.inl (fun k => edge (yv k))))), (o, .inr (1, [.ref c1, .ref f1, .int (nI n0), .int (nI (htN tw n0))])), (c1, .inl (T 0, 60, .inl (fun k => nI (tw k)))), (f1, .inl (T 0, 60, .inl (fun k => nI (fN (eig (tw k))))))] "java/util/NoSuchElementException" := by
  refine Tm.of (by decide) (Nat.le_of_ble_eq_true rfl) ?_
  intro zp ze s zm args below zmeth zc hx hb hr hml hown hts hlocks hout A hA hP hK hD hS hZ ls hl
  have hl : lv_has ls 2 [(0, .ref x), (1, .int (nI p))] := hl
  refine lv_iload_n hx hb dX7_lift_0 rfl (lv_at hl 1 rfl) ?_
  refine zp_callv hx hb hml hown hts k_X7_31 (c_needPlace l (nI p) (is_ok hp)) ⟨by decide, by decide⟩ rfl hl.1 [] rfl (Nat.le_of_ble_eq_true rfl) dX7_lift_1 ⟨Nat.le_of_ble_eq_true rfl, Nat.le_of_ble_eq_true rfl⟩ ?_
  refine lv_aload_n hx hb dX7_lift_4 rfl (lv_at hl 0 rfl) ?_
  refine zt_v (T := T) hx hb hml hown hts k_X7_183 (t_needCubes l hlf D T x vs es o t c1 f1 tw n0 hn) ⟨by decide, by decide⟩ rfl hl.1 [] rfl (Nat.le_of_ble_eq_true rfl) dX7_lift_5 ⟨Nat.le_of_ble_eq_true rfl, Nat.le_of_ble_eq_true rfl⟩ hK hP hD hS hA hZ (ci := 3) rfl rfl rfl [0, 3, 4, 5] [1, 2] (wr := [(vs, .inl (T 0, 8, .inl (fun k => nI (yv k)))), (es, .inl (T 1, 8, .inr (.inl (fun k => edge (yv k)))))]) rfl rfl (by decide) (by decide) (by decide) [2, 0, 1, 3, 4, 5] (by decide) rfl (fun ce q9 H locs hP hD hS hce hcv hcl => ?_)
  exact zt_out hlocks hout hP hD hS hce hcv hcl
set_option maxRecDepth 20000 in
theorem c_X7_under_ok (l : Launch) (D : va_G) (T : Nat → ClassId) (x vs es o t c1 f1 : Nat) (tw : Nat → Nat) (n0 : Nat) (x0 : Int32) (hn : n0 ≤ 60) : Hm l yX7_under cX7_under 2 (some FieldType.int) 1 0 0 D T [.ref x, .int x0] [(x, .inr (3, [.ref vs, .ref es, .ref o, .ref t])), (o, .inr (1, [.ref c1, .ref f1, .int (nI n0), .int (nI (htN tw n0))])), (c1, .inl (T 0, 60, .inl (fun k => nI (tw k)))), (f1, .inl (T 0, 60, .inl (fun k => nI (fN (eig (tw k))))))] (some (.int (nI (unN tw x0 n0)))) (fun _ : Unit => [(x, .inr (3, [.ref vs, .ref es, .ref o, .ref t])), (o, .inr (1, [.ref c1, .ref f1, .int (nI n0), .int (nI (htN tw n0))])), (c1, .inl (T 0, 60, .inl (fun k => nI (tw k)))), (f1, .inl (T 0, 60, .inl (fun k => nI (fN (eig (tw k))))))]) := by
  refine Hm.of (by decide) (Nat.le_of_ble_eq_true rfl) ?_
  intro zp ze s zm args below zmeth zc hx hb hr hml hown hin hts hlocks A hA hP hK hD hS ls hl
  have hl : lv_has ls 2 [(0, .ref x), (1, .int x0)] := hl
  refine lv_aload_n hx hb dX7_under_0 rfl (lv_at hl 0 rfl) ?_
  refine va_get (D := D) (ci := 3) (v := .ref o) (C := RX7) (T := TX7) (N := 4) hx hb hts i_X7 hown hK hP 0 rfl rfl 2 (by decide) (hts _ u92) (fun _ h9 => h9) rfl dX7_under_1 ?_
  refine lv_iload_n hx hb dX7_under_4 rfl (lv_at hl 1 rfl) ?_
  refine zh_v (T := T) hx hb hml hown hts k_X7_189 (c_X4_cubesWithin l D T o c1 f1 tw n0 x0 (by omega)) ⟨by decide, by decide⟩ rfl hl.1 [] rfl (Nat.le_of_ble_eq_true rfl) dX7_under_5 ⟨Nat.le_of_ble_eq_true rfl, Nat.le_of_ble_eq_true rfl⟩ hK hP hD hS hA (ci := 1) rfl rfl rfl [1, 2, 3] [0] (wr := [(x, .inr (3, [.ref vs, .ref es, .ref o, .ref t]))]) rfl rfl (by decide) (by decide) (by decide) [0, 1, 2, 3] (fun _ => [(x, .inr (3, [.ref vs, .ref es, .ref o, .ref t])), (o, .inr (1, [.ref c1, .ref f1, .int (nI n0), .int (nI (htN tw n0))])), (c1, .inl (T 0, 60, .inl (fun k => nI (tw k)))), (f1, .inl (T 0, 60, .inl (fun k => nI (fN (eig (tw k))))))]) (by decide) (fun _ => rfl) (fun _ H locs hP hD hS => ?_)
  have hP : va_P D zcl [(x, .inr (3, [.ref vs, .ref es, .ref o, .ref t])), (o, .inr (1, [.ref c1, .ref f1, .int (nI n0), .int (nI (htN tw n0))])), (c1, .inl (T 0, 60, .inl (fun k => nI (tw k)))), (f1, .inl (T 0, 60, .inl (fun k => nI (fN (eig (tw k))))))] H := hP
  have hD : va_D A [(x, .inr (3, [.ref vs, .ref es, .ref o, .ref t])), (o, .inr (1, [.ref c1, .ref f1, .int (nI n0), .int (nI (htN tw n0))])), (c1, .inl (T 0, 60, .inl (fun k => nI (tw k)))), (f1, .inl (T 0, 60, .inl (fun k => nI (fN (eig (tw k))))))] := hD
  exact zh_iret () hx hb hr hlocks dX7_under_8 hP hD hS (rfl) (rfl)
set_option maxRecDepth 20000 in
theorem c_X7_melt_ok (l : Launch) (D : va_G) (T : Nat → ClassId) (x vs es o t c1 f1 : Nat) (yv tw : Nat → Nat) (n0 : Nat) (p : Nat) (hp : p < 8) (hn0 : 0 < n0) (hn : n0 ≤ 60) (hr0 : rdC (egN tw n0) ≤ 65535) (ht : ∀ k, tw k < 262144)  : Hm l yX7_melt cX7_melt 4 (some FieldType.int) 5 0 0 D T [.ref x, .int (nI p)] [(x, .inr (3, [.ref vs, .ref es, .ref o, .ref t])), (vs, .inl (T 0, 8, .inl (fun k => nI (yv k)))), (es, .inl (T 1, 8, .inr (.inl (fun k => edge (yv k))))), (o, .inr (1, [.ref c1, .ref f1, .int (nI n0), .int (nI (htN tw n0))])), (c1, .inl (T 0, 60, .inl (fun k => nI (tw k)))), (f1, .inl (T 0, 60, .inl (fun k => nI (fN (eig (tw k))))))] (some (.int (nI (htN tw n0) - fI (rdV (egN tw n0) false)))) (fun _ : Unit => [(x, .inr (3, [.ref vs, .ref es, .ref o, .ref t])), (vs, .inl (T 0, 8, .inl (fun k => nI ((up yv p (rdV (egN tw n0) false)) k)))), (es, .inl (T 1, 8, .inr (.inl (fun k => edge ((up yv p (rdV (egN tw n0) false)) k))))), (o, .inr (1, [.ref c1, .ref f1, .int (nI 0), .int (nI (htN tw 0))])), (c1, .inl (T 0, 60, .inl (fun k => nI (tw k)))), (f1, .inl (T 0, 60, .inl (fun k => nI (fN (eig (tw k))))))]) := by
  refine Hm.of (by decide) (Nat.le_of_ble_eq_true rfl) ?_
  intro zp ze s zm args below zmeth zc hx hb hr hml hown hin hts hlocks A hA hP hK hD hS ls hl
  have hl : lv_has ls 4 [(0, .ref x), (1, .int (nI p))] := hl
  have heg := egN_lt ht n0
  refine lv_iload_n hx hb dX7_melt_0 rfl (lv_at hl 1 rfl) ?_
  refine zp_callv hx hb hml hown hts k_X7_31 (c_needPlace l (nI p) (is_ok hp)) ⟨by decide, by decide⟩ rfl hl.1 [] rfl (Nat.le_of_ble_eq_true rfl) dX7_melt_1 ⟨Nat.le_of_ble_eq_true rfl, Nat.le_of_ble_eq_true rfl⟩ ?_
  refine lv_aload_n hx hb dX7_melt_4 rfl (lv_at hl 0 rfl) ?_
  refine zh_v (T := T) hx hb hml hown hts k_X7_183 (c_needCubes l D T x vs es o t c1 f1 tw n0 (by omega) (by omega)) ⟨by decide, by decide⟩ rfl hl.1 [] rfl (Nat.le_of_ble_eq_true rfl) dX7_melt_5 ⟨Nat.le_of_ble_eq_true rfl, Nat.le_of_ble_eq_true rfl⟩ hK hP hD hS hA (ci := 3) rfl rfl rfl [0, 3, 4, 5] [1, 2] (wr := [(vs, .inl (T 0, 8, .inl (fun k => nI (yv k)))), (es, .inl (T 1, 8, .inr (.inl (fun k => edge (yv k)))))]) rfl rfl (by decide) (by decide) (by decide) [2, 0, 1, 3, 4, 5] (fun _ => [(x, .inr (3, [.ref vs, .ref es, .ref o, .ref t])), (vs, .inl (T 0, 8, .inl (fun k => nI (yv k)))), (es, .inl (T 1, 8, .inr (.inl (fun k => edge (yv k))))), (o, .inr (1, [.ref c1, .ref f1, .int (nI n0), .int (nI (htN tw n0))])), (c1, .inl (T 0, 60, .inl (fun k => nI (tw k)))), (f1, .inl (T 0, 60, .inl (fun k => nI (fN (eig (tw k))))))]) (by decide) (fun _ => rfl) (fun _ H locs hP hD hS => ?_)
  have hP : va_P D zcl [(x, .inr (3, [.ref vs, .ref es, .ref o, .ref t])), (vs, .inl (T 0, 8, .inl (fun k => nI (yv k)))), (es, .inl (T 1, 8, .inr (.inl (fun k => edge (yv k))))), (o, .inr (1, [.ref c1, .ref f1, .int (nI n0), .int (nI (htN tw n0))])), (c1, .inl (T 0, 60, .inl (fun k => nI (tw k)))), (f1, .inl (T 0, 60, .inl (fun k => nI (fN (eig (tw k))))))] H := hP
  have hD : va_D A [(x, .inr (3, [.ref vs, .ref es, .ref o, .ref t])), (vs, .inl (T 0, 8, .inl (fun k => nI (yv k)))), (es, .inl (T 1, 8, .inr (.inl (fun k => edge (yv k))))), (o, .inr (1, [.ref c1, .ref f1, .int (nI n0), .int (nI (htN tw n0))])), (c1, .inl (T 0, 60, .inl (fun k => nI (tw k)))), (f1, .inl (T 0, 60, .inl (fun k => nI (fN (eig (tw k))))))] := hD
  refine lv_aload_n hx hb dX7_melt_8 rfl (lv_at hl 0 rfl) ?_
  refine va_get (D := D) (ci := 3) (v := .ref o) (C := RX7) (T := TX7) (N := 4) hx hb hts i_X7 hown hK hP 0 rfl rfl 2 (by decide) (hts _ u92) (fun _ h9 => h9) rfl dX7_melt_9 ?_
  refine zh_v (T := T) hx hb hml hown hts k_X7_192 (c_X4_eighths l D T o c1 f1 tw n0 (by omega) ht) ⟨by decide, by decide⟩ rfl hl.1 [] rfl (Nat.le_of_ble_eq_true rfl) dX7_melt_12 ⟨Nat.le_of_ble_eq_true rfl, Nat.le_of_ble_eq_true rfl⟩ hK hP hD hS hA (ci := 1) rfl rfl rfl [3, 4, 5] [0, 1, 2] (wr := [(x, .inr (3, [.ref vs, .ref es, .ref o, .ref t])), (vs, .inl (T 0, 8, .inl (fun k => nI (yv k)))), (es, .inl (T 1, 8, .inr (.inl (fun k => edge (yv k)))))]) rfl rfl (by decide) (by decide) (by decide) [0, 1, 2, 3, 4, 5] (fun _ => [(x, .inr (3, [.ref vs, .ref es, .ref o, .ref t])), (vs, .inl (T 0, 8, .inl (fun k => nI (yv k)))), (es, .inl (T 1, 8, .inr (.inl (fun k => edge (yv k))))), (o, .inr (1, [.ref c1, .ref f1, .int (nI n0), .int (nI (htN tw n0))])), (c1, .inl (T 0, 60, .inl (fun k => nI (tw k)))), (f1, .inl (T 0, 60, .inl (fun k => nI (fN (eig (tw k))))))]) (by decide) (fun _ => rfl) (fun _ H locs hP hD hS => ?_)
  have hP : va_P D zcl [(x, .inr (3, [.ref vs, .ref es, .ref o, .ref t])), (vs, .inl (T 0, 8, .inl (fun k => nI (yv k)))), (es, .inl (T 1, 8, .inr (.inl (fun k => edge (yv k))))), (o, .inr (1, [.ref c1, .ref f1, .int (nI n0), .int (nI (htN tw n0))])), (c1, .inl (T 0, 60, .inl (fun k => nI (tw k)))), (f1, .inl (T 0, 60, .inl (fun k => nI (fN (eig (tw k))))))] H := hP
  have hD : va_D A [(x, .inr (3, [.ref vs, .ref es, .ref o, .ref t])), (vs, .inl (T 0, 8, .inl (fun k => nI (yv k)))), (es, .inl (T 1, 8, .inr (.inl (fun k => edge (yv k))))), (o, .inr (1, [.ref c1, .ref f1, .int (nI n0), .int (nI (htN tw n0))])), (c1, .inl (T 0, 60, .inl (fun k => nI (tw k)))), (f1, .inl (T 0, 60, .inl (fun k => nI (fN (eig (tw k))))))] := hD
  refine lv_iconst (v := 0) hx hb dX7_melt_15 (by decide) ?_
  refine zp_call hx hb hml hown hts k_X7_196 (c_X5_reduced l (lN (egN tw n0)) 0) ⟨by decide, by decide⟩ rfl hl.1 [] rfl (Nat.le_of_ble_eq_true rfl) dX7_melt_16 ⟨by decide, by decide⟩ ?_
  refine zf_i (x' := nI (rdV (egN tw n0) false)) ((rd0 (by omega)).trans (if_pos hr0)) ?_
  refine lv_istore_n (lv' := [(2, .int (nI (rdV (egN tw n0) false))), (0, .ref x), (1, .int (nI p))]) hx hb dX7_melt_19 rfl hl (by decide) rfl (fun ls hl => ?_)
  refine lv_iload_n hx hb dX7_melt_20 rfl (lv_at hl 0 rfl) ?_
  refine lv_iconst (v := (-1)) hx hb dX7_melt_21 (by decide) ?_
  refine lv_icmp_ne (tgt := 35) hx hb dX7_melt_22 (by decide) (fun h1 => ?_) (fun h1 => ?_)
  · refine lv_aload_n hx hb dX7_melt_35 rfl (lv_at hl 1 rfl) ?_
    refine va_get (D := D) (ci := 3) (v := .ref o) (C := RX7) (T := TX7) (N := 4) hx hb hts i_X7 hown hK hP 0 rfl rfl 2 (by decide) (hts _ u92) (fun _ h9 => h9) rfl dX7_melt_36 ?_
    refine zh_v (T := T) hx hb hml hown hts k_X7_179 (c_X4_height l D T o c1 f1 tw n0 ) ⟨by decide, by decide⟩ rfl hl.1 [] rfl (Nat.le_of_ble_eq_true rfl) dX7_melt_39 ⟨Nat.le_of_ble_eq_true rfl, Nat.le_of_ble_eq_true rfl⟩ hK hP hD hS hA (ci := 1) rfl rfl rfl [3, 4, 5] [0, 1, 2] (wr := [(x, .inr (3, [.ref vs, .ref es, .ref o, .ref t])), (vs, .inl (T 0, 8, .inl (fun k => nI (yv k)))), (es, .inl (T 1, 8, .inr (.inl (fun k => edge (yv k)))))]) rfl rfl (by decide) (by decide) (by decide) [0, 1, 2, 3, 4, 5] (fun _ => [(x, .inr (3, [.ref vs, .ref es, .ref o, .ref t])), (vs, .inl (T 0, 8, .inl (fun k => nI (yv k)))), (es, .inl (T 1, 8, .inr (.inl (fun k => edge (yv k))))), (o, .inr (1, [.ref c1, .ref f1, .int (nI n0), .int (nI (htN tw n0))])), (c1, .inl (T 0, 60, .inl (fun k => nI (tw k)))), (f1, .inl (T 0, 60, .inl (fun k => nI (fN (eig (tw k))))))]) (by decide) (fun _ => rfl) (fun _ H locs hP hD hS => ?_)
    have hP : va_P D zcl [(x, .inr (3, [.ref vs, .ref es, .ref o, .ref t])), (vs, .inl (T 0, 8, .inl (fun k => nI (yv k)))), (es, .inl (T 1, 8, .inr (.inl (fun k => edge (yv k))))), (o, .inr (1, [.ref c1, .ref f1, .int (nI n0), .int (nI (htN tw n0))])), (c1, .inl (T 0, 60, .inl (fun k => nI (tw k)))), (f1, .inl (T 0, 60, .inl (fun k => nI (fN (eig (tw k))))))] H := hP
    have hD : va_D A [(x, .inr (3, [.ref vs, .ref es, .ref o, .ref t])), (vs, .inl (T 0, 8, .inl (fun k => nI (yv k)))), (es, .inl (T 1, 8, .inr (.inl (fun k => edge (yv k))))), (o, .inr (1, [.ref c1, .ref f1, .int (nI n0), .int (nI (htN tw n0))])), (c1, .inl (T 0, 60, .inl (fun k => nI (tw k)))), (f1, .inl (T 0, 60, .inl (fun k => nI (fN (eig (tw k))))))] := hD
    refine lv_istore_n (lv' := [(3, .int (nI (htN tw n0))), (2, .int (nI (rdV (egN tw n0) false))), (0, .ref x), (1, .int (nI p))]) hx hb dX7_melt_42 rfl hl (by decide) rfl (fun ls hl => ?_)
    refine lv_aload_n hx hb dX7_melt_43 rfl (lv_at hl 2 rfl) ?_
    refine va_get (D := D) (ci := 3) (v := .ref o) (C := RX7) (T := TX7) (N := 4) hx hb hts i_X7 hown hK hP 0 rfl rfl 2 (by decide) (hts _ u92) (fun _ h9 => h9) rfl dX7_melt_44 ?_
    refine zh_v (T := T) hx hb hml hown hts k_X7_202 (c_X4_clear l D T o c1 f1 tw n0 ) ⟨by decide, by decide⟩ rfl hl.1 [] rfl (Nat.le_of_ble_eq_true rfl) dX7_melt_47 ⟨Nat.le_of_ble_eq_true rfl, Nat.le_of_ble_eq_true rfl⟩ hK hP hD hS hA (ci := 1) rfl rfl rfl [3, 4, 5] [0, 1, 2] (wr := [(x, .inr (3, [.ref vs, .ref es, .ref o, .ref t])), (vs, .inl (T 0, 8, .inl (fun k => nI (yv k)))), (es, .inl (T 1, 8, .inr (.inl (fun k => edge (yv k)))))]) rfl rfl (by decide) (by decide) (by decide) [0, 1, 2, 3, 4, 5] (fun _ => [(x, .inr (3, [.ref vs, .ref es, .ref o, .ref t])), (vs, .inl (T 0, 8, .inl (fun k => nI (yv k)))), (es, .inl (T 1, 8, .inr (.inl (fun k => edge (yv k))))), (o, .inr (1, [.ref c1, .ref f1, .int (nI 0), .int (nI (htN tw 0))])), (c1, .inl (T 0, 60, .inl (fun k => nI (tw k)))), (f1, .inl (T 0, 60, .inl (fun k => nI (fN (eig (tw k))))))]) (by decide) (fun _ => rfl) (fun _ H locs hP hD hS => ?_)
    have hP : va_P D zcl [(x, .inr (3, [.ref vs, .ref es, .ref o, .ref t])), (vs, .inl (T 0, 8, .inl (fun k => nI (yv k)))), (es, .inl (T 1, 8, .inr (.inl (fun k => edge (yv k))))), (o, .inr (1, [.ref c1, .ref f1, .int (nI 0), .int (nI (htN tw 0))])), (c1, .inl (T 0, 60, .inl (fun k => nI (tw k)))), (f1, .inl (T 0, 60, .inl (fun k => nI (fN (eig (tw k))))))] H := hP
    have hD : va_D A [(x, .inr (3, [.ref vs, .ref es, .ref o, .ref t])), (vs, .inl (T 0, 8, .inl (fun k => nI (yv k)))), (es, .inl (T 1, 8, .inr (.inl (fun k => edge (yv k))))), (o, .inr (1, [.ref c1, .ref f1, .int (nI 0), .int (nI (htN tw 0))])), (c1, .inl (T 0, 60, .inl (fun k => nI (tw k)))), (f1, .inl (T 0, 60, .inl (fun k => nI (fN (eig (tw k))))))] := hD
    refine lv_aload_n hx hb dX7_melt_50 rfl (lv_at hl 2 rfl) ?_
    refine lv_iload_n hx hb dX7_melt_51 rfl (lv_at hl 3 rfl) ?_
    refine lv_iload_n hx hb dX7_melt_52 rfl (lv_at hl 1 rfl) ?_
    refine zh_v (T := T) hx hb hml hown hts k_X7_52 (c_X7_write l D T x vs es o t yv p hp (rdV (egN tw n0) false) (rdV_lt hr0 _)) ⟨by decide, by decide⟩ rfl hl.1 [] rfl (Nat.le_of_ble_eq_true rfl) dX7_melt_53 ⟨Nat.le_of_ble_eq_true rfl, Nat.le_of_ble_eq_true rfl⟩ hK hP hD hS hA (ci := 3) rfl rfl rfl [0, 1, 2] [3, 4, 5] (wr := [(o, .inr (1, [.ref c1, .ref f1, .int (nI 0), .int (nI (htN tw 0))])), (c1, .inl (T 0, 60, .inl (fun k => nI (tw k)))), (f1, .inl (T 0, 60, .inl (fun k => nI (fN (eig (tw k))))))]) rfl rfl (by decide) (by decide) (by decide) [3, 4, 5, 0, 1, 2] (fun _ => [(x, .inr (3, [.ref vs, .ref es, .ref o, .ref t])), (vs, .inl (T 0, 8, .inl (fun k => nI ((up yv p (rdV (egN tw n0) false)) k)))), (es, .inl (T 1, 8, .inr (.inl (fun k => edge ((up yv p (rdV (egN tw n0) false)) k))))), (o, .inr (1, [.ref c1, .ref f1, .int (nI 0), .int (nI (htN tw 0))])), (c1, .inl (T 0, 60, .inl (fun k => nI (tw k)))), (f1, .inl (T 0, 60, .inl (fun k => nI (fN (eig (tw k))))))]) (by decide) (fun _ => rfl) (fun _ H locs hP hD hS => ?_)
    have hP : va_P D zcl [(x, .inr (3, [.ref vs, .ref es, .ref o, .ref t])), (vs, .inl (T 0, 8, .inl (fun k => nI ((up yv p (rdV (egN tw n0) false)) k)))), (es, .inl (T 1, 8, .inr (.inl (fun k => edge ((up yv p (rdV (egN tw n0) false)) k))))), (o, .inr (1, [.ref c1, .ref f1, .int (nI 0), .int (nI (htN tw 0))])), (c1, .inl (T 0, 60, .inl (fun k => nI (tw k)))), (f1, .inl (T 0, 60, .inl (fun k => nI (fN (eig (tw k))))))] H := hP
    have hD : va_D A [(x, .inr (3, [.ref vs, .ref es, .ref o, .ref t])), (vs, .inl (T 0, 8, .inl (fun k => nI ((up yv p (rdV (egN tw n0) false)) k)))), (es, .inl (T 1, 8, .inr (.inl (fun k => edge ((up yv p (rdV (egN tw n0) false)) k))))), (o, .inr (1, [.ref c1, .ref f1, .int (nI 0), .int (nI (htN tw 0))])), (c1, .inl (T 0, 60, .inl (fun k => nI (tw k)))), (f1, .inl (T 0, 60, .inl (fun k => nI (fN (eig (tw k))))))] := hD
    refine lv_iload_n hx hb dX7_melt_56 rfl (lv_at hl 0 rfl) ?_
    refine lv_aload_n hx hb dX7_melt_57 rfl (lv_at hl 2 rfl) ?_
    refine va_get (D := D) (ci := 3) (v := .ref es) (C := RX7) (T := TX7) (N := 4) hx hb hts i_X7 hown hK hP 0 rfl rfl 1 (by decide) (hts _ u91) (fun _ h9 => h9) rfl dX7_melt_58 ?_
    refine lv_iload_n hx hb dX7_melt_61 rfl (lv_at hl 3 rfl) ?_
    refine za_lald hx hb hK hP 2 rfl p (rfl) (by omega) (by decide) dX7_melt_62 ?_
    refine zf_l (x' := edge (rdV (egN tw n0) false)) (by rw [up_s]) ?_
    refine zp_call hx hb hml hown hts k_X7_56 (c_X2_fineOf l (edge (rdV (egN tw n0) false))) ⟨by decide, by decide⟩ rfl hl.1 [.int (nI (htN tw n0))] rfl (Nat.le_of_ble_eq_true rfl) dX7_melt_63 ⟨by decide, by decide⟩ ?_
    refine zf_i (x' := fI (rdV (egN tw n0) false)) (ed_fine (rdV_lt hr0 _)) ?_
    refine lv_isub hx hb dX7_melt_66 ?_
    exact zh_iret () hx hb hr hlocks dX7_melt_67 hP hD hS (rfl) (rfl)
  · exact absurd h1 (nI_nm1 (Nat.lt_trans (rdV_lt hr0 _) (by decide)))
set_option maxRecDepth 20000 in
theorem t_X7_melt_big (l : Launch) (hlf : l.stackTraces = false) (D : va_G) (T : Nat → ClassId) (x vs es o t c1 f1 : Nat) (yv tw : Nat → Nat) (n0 : Nat) (p : Nat) (hp : p < 8) (hn0 : 0 < n0) (hn : n0 ≤ 60) (hr0 : 65535 < rdC (egN tw n0)) (ht : ∀ k, tw k < 262144)  : Tm l yX7_melt cX7_melt 4 (some FieldType.int) 7 D T [.ref x, .int (nI p)] [(x, .inr (3, [.ref vs, .ref es, .ref o, .ref t])), (vs, .inl (T 0, 8, .inl (fun k => nI (yv k)))), (es, .inl (T 1, 8, .inr (.inl (fun k => edge (yv k))))), (o, .inr (1, [.ref c1, .ref f1, .int (nI n0), .int (nI (htN tw n0))])), (c1, .inl (T 0, 60, .inl (fun k => nI (tw k)))), (f1, .inl (T 0, 60, .inl (fun k => nI (fN (eig (tw k))))))] "java/lang/ArithmeticException" := by
  refine Tm.of (by decide) (Nat.le_of_ble_eq_true rfl) ?_
  intro zp ze s zm args below zmeth zc hx hb hr hml hown hts hlocks hout A hA hP hK hD hS hZ ls hl
  have hl : lv_has ls 4 [(0, .ref x), (1, .int (nI p))] := hl
  have heg := egN_lt ht n0
  refine lv_iload_n hx hb dX7_melt_0 rfl (lv_at hl 1 rfl) ?_
  refine zp_callv hx hb hml hown hts k_X7_31 (c_needPlace l (nI p) (is_ok hp)) ⟨by decide, by decide⟩ rfl hl.1 [] rfl (Nat.le_of_ble_eq_true rfl) dX7_melt_1 ⟨Nat.le_of_ble_eq_true rfl, Nat.le_of_ble_eq_true rfl⟩ ?_
  refine lv_aload_n hx hb dX7_melt_4 rfl (lv_at hl 0 rfl) ?_
  refine zh_v (T := T) hx hb hml hown hts k_X7_183 (c_needCubes l D T x vs es o t c1 f1 tw n0 (by omega) (by omega)) ⟨by decide, by decide⟩ rfl hl.1 [] rfl (Nat.le_of_ble_eq_true rfl) dX7_melt_5 ⟨Nat.le_of_ble_eq_true rfl, Nat.le_of_ble_eq_true rfl⟩ hK hP hD hS hA (ci := 3) rfl rfl rfl [0, 3, 4, 5] [1, 2] (wr := [(vs, .inl (T 0, 8, .inl (fun k => nI (yv k)))), (es, .inl (T 1, 8, .inr (.inl (fun k => edge (yv k)))))]) rfl rfl (by decide) (by decide) (by decide) [2, 0, 1, 3, 4, 5] (fun _ => [(x, .inr (3, [.ref vs, .ref es, .ref o, .ref t])), (vs, .inl (T 0, 8, .inl (fun k => nI (yv k)))), (es, .inl (T 1, 8, .inr (.inl (fun k => edge (yv k))))), (o, .inr (1, [.ref c1, .ref f1, .int (nI n0), .int (nI (htN tw n0))])), (c1, .inl (T 0, 60, .inl (fun k => nI (tw k)))), (f1, .inl (T 0, 60, .inl (fun k => nI (fN (eig (tw k))))))]) (by decide) (fun _ => rfl) (fun _ H locs hP hD hS => ?_)
  have hP : va_P D zcl [(x, .inr (3, [.ref vs, .ref es, .ref o, .ref t])), (vs, .inl (T 0, 8, .inl (fun k => nI (yv k)))), (es, .inl (T 1, 8, .inr (.inl (fun k => edge (yv k))))), (o, .inr (1, [.ref c1, .ref f1, .int (nI n0), .int (nI (htN tw n0))])), (c1, .inl (T 0, 60, .inl (fun k => nI (tw k)))), (f1, .inl (T 0, 60, .inl (fun k => nI (fN (eig (tw k))))))] H := hP
  have hD : va_D A [(x, .inr (3, [.ref vs, .ref es, .ref o, .ref t])), (vs, .inl (T 0, 8, .inl (fun k => nI (yv k)))), (es, .inl (T 1, 8, .inr (.inl (fun k => edge (yv k))))), (o, .inr (1, [.ref c1, .ref f1, .int (nI n0), .int (nI (htN tw n0))])), (c1, .inl (T 0, 60, .inl (fun k => nI (tw k)))), (f1, .inl (T 0, 60, .inl (fun k => nI (fN (eig (tw k))))))] := hD
  refine lv_aload_n hx hb dX7_melt_8 rfl (lv_at hl 0 rfl) ?_
  refine va_get (D := D) (ci := 3) (v := .ref o) (C := RX7) (T := TX7) (N := 4) hx hb hts i_X7 hown hK hP 0 rfl rfl 2 (by decide) (hts _ u92) (fun _ h9 => h9) rfl dX7_melt_9 ?_
  refine zh_v (T := T) hx hb hml hown hts k_X7_192 (c_X4_eighths l D T o c1 f1 tw n0 (by omega) ht) ⟨by decide, by decide⟩ rfl hl.1 [] rfl (Nat.le_of_ble_eq_true rfl) dX7_melt_12 ⟨Nat.le_of_ble_eq_true rfl, Nat.le_of_ble_eq_true rfl⟩ hK hP hD hS hA (ci := 1) rfl rfl rfl [3, 4, 5] [0, 1, 2] (wr := [(x, .inr (3, [.ref vs, .ref es, .ref o, .ref t])), (vs, .inl (T 0, 8, .inl (fun k => nI (yv k)))), (es, .inl (T 1, 8, .inr (.inl (fun k => edge (yv k)))))]) rfl rfl (by decide) (by decide) (by decide) [0, 1, 2, 3, 4, 5] (fun _ => [(x, .inr (3, [.ref vs, .ref es, .ref o, .ref t])), (vs, .inl (T 0, 8, .inl (fun k => nI (yv k)))), (es, .inl (T 1, 8, .inr (.inl (fun k => edge (yv k))))), (o, .inr (1, [.ref c1, .ref f1, .int (nI n0), .int (nI (htN tw n0))])), (c1, .inl (T 0, 60, .inl (fun k => nI (tw k)))), (f1, .inl (T 0, 60, .inl (fun k => nI (fN (eig (tw k))))))]) (by decide) (fun _ => rfl) (fun _ H locs hP hD hS => ?_)
  have hP : va_P D zcl [(x, .inr (3, [.ref vs, .ref es, .ref o, .ref t])), (vs, .inl (T 0, 8, .inl (fun k => nI (yv k)))), (es, .inl (T 1, 8, .inr (.inl (fun k => edge (yv k))))), (o, .inr (1, [.ref c1, .ref f1, .int (nI n0), .int (nI (htN tw n0))])), (c1, .inl (T 0, 60, .inl (fun k => nI (tw k)))), (f1, .inl (T 0, 60, .inl (fun k => nI (fN (eig (tw k))))))] H := hP
  have hD : va_D A [(x, .inr (3, [.ref vs, .ref es, .ref o, .ref t])), (vs, .inl (T 0, 8, .inl (fun k => nI (yv k)))), (es, .inl (T 1, 8, .inr (.inl (fun k => edge (yv k))))), (o, .inr (1, [.ref c1, .ref f1, .int (nI n0), .int (nI (htN tw n0))])), (c1, .inl (T 0, 60, .inl (fun k => nI (tw k)))), (f1, .inl (T 0, 60, .inl (fun k => nI (fN (eig (tw k))))))] := hD
  refine lv_iconst (v := 0) hx hb dX7_melt_15 (by decide) ?_
  refine zp_call hx hb hml hown hts k_X7_196 (c_X5_reduced l (lN (egN tw n0)) 0) ⟨by decide, by decide⟩ rfl hl.1 [] rfl (Nat.le_of_ble_eq_true rfl) dX7_melt_16 ⟨by decide, by decide⟩ ?_
  refine zf_i (x' := (-1)) ((rd0 (by omega)).trans (if_neg (Nat.not_le.mpr hr0))) ?_
  refine lv_istore_n (lv' := [(2, .int (-1)), (0, .ref x), (1, .int (nI p))]) hx hb dX7_melt_19 rfl hl (by decide) rfl (fun ls hl => ?_)
  refine lv_iload_n hx hb dX7_melt_20 rfl (lv_at hl 0 rfl) ?_
  refine lv_iconst (v := (-1)) hx hb dX7_melt_21 (by decide) ?_
  refine lv_icmp_ne (tgt := 35) hx hb dX7_melt_22 (by decide) (fun h1 => ?_) (fun h1 => ?_)
  · exact absurd h1 (by decide)
  · exact zt_throw hx hb hlf hml hown hts hlocks hout (by decide +kernel) u525 u32 (List.mem_of_getElem? (i := 13) rfl) xg_81 xn_81 xo_81 hP hD hS hZ hl.1 (by decide) (Nat.le_of_ble_eq_true rfl) dX7_melt_25 dX7_melt_28 dX7_melt_29 dX7_melt_31 dX7_melt_34
set_option maxRecDepth 20000 in
theorem t_X7_melt_none (l : Launch) (hlf : l.stackTraces = false) (D : va_G) (T : Nat → ClassId) (x vs es o t c1 f1 : Nat) (yv tw : Nat → Nat) (n0 : Nat) (p : Nat) (hp : p < 8) (hn : n0 = 0) : Tm l yX7_melt cX7_melt 4 (some FieldType.int) 7 D T [.ref x, .int (nI p)] [(x, .inr (3, [.ref vs, .ref es, .ref o, .ref t])), (vs, .inl (T 0, 8, .inl (fun k => nI (yv k)))), (es, .inl (T 1, 8, .inr (.inl (fun k => edge (yv k))))), (o, .inr (1, [.ref c1, .ref f1, .int (nI n0), .int (nI (htN tw n0))])), (c1, .inl (T 0, 60, .inl (fun k => nI (tw k)))), (f1, .inl (T 0, 60, .inl (fun k => nI (fN (eig (tw k))))))] "java/util/NoSuchElementException" := by
  refine Tm.of (by decide) (Nat.le_of_ble_eq_true rfl) ?_
  intro zp ze s zm args below zmeth zc hx hb hr hml hown hts hlocks hout A hA hP hK hD hS hZ ls hl
  have hl : lv_has ls 4 [(0, .ref x), (1, .int (nI p))] := hl
  refine lv_iload_n hx hb dX7_melt_0 rfl (lv_at hl 1 rfl) ?_
  refine zp_callv hx hb hml hown hts k_X7_31 (c_needPlace l (nI p) (is_ok hp)) ⟨by decide, by decide⟩ rfl hl.1 [] rfl (Nat.le_of_ble_eq_true rfl) dX7_melt_1 ⟨Nat.le_of_ble_eq_true rfl, Nat.le_of_ble_eq_true rfl⟩ ?_
  refine lv_aload_n hx hb dX7_melt_4 rfl (lv_at hl 0 rfl) ?_
  refine zt_v (T := T) hx hb hml hown hts k_X7_183 (t_needCubes l hlf D T x vs es o t c1 f1 tw n0 hn) ⟨by decide, by decide⟩ rfl hl.1 [] rfl (Nat.le_of_ble_eq_true rfl) dX7_melt_5 ⟨Nat.le_of_ble_eq_true rfl, Nat.le_of_ble_eq_true rfl⟩ hK hP hD hS hA hZ (ci := 3) rfl rfl rfl [0, 3, 4, 5] [1, 2] (wr := [(vs, .inl (T 0, 8, .inl (fun k => nI (yv k)))), (es, .inl (T 1, 8, .inr (.inl (fun k => edge (yv k)))))]) rfl rfl (by decide) (by decide) (by decide) [2, 0, 1, 3, 4, 5] (by decide) rfl (fun ce q9 H locs hP hD hS hce hcv hcl => ?_)
  exact zt_out hlocks hout hP hD hS hce hcv hcl
set_option maxRecDepth 20000 in
theorem c_X7_upperShare_0 (l : Launch) (D : va_G) (T : Nat → ClassId) (x vs es o t c1 f1 : Nat) (tw : Nat → Nat) (n0 : Nat) (hn : n0 = 0) : Hm l yX7_upperShare cX7_upperShare 2 (some FieldType.float) 2 0 0 D T [.ref x] [(x, .inr (3, [.ref vs, .ref es, .ref o, .ref t])), (o, .inr (1, [.ref c1, .ref f1, .int (nI n0), .int (nI (htN tw n0))])), (c1, .inl (T 0, 60, .inl (fun k => nI (tw k)))), (f1, .inl (T 0, 60, .inl (fun k => nI (fN (eig (tw k))))))] (some (.float (shF tw n0))) (fun _ : Unit => [(x, .inr (3, [.ref vs, .ref es, .ref o, .ref t])), (o, .inr (1, [.ref c1, .ref f1, .int (nI n0), .int (nI (htN tw n0))])), (c1, .inl (T 0, 60, .inl (fun k => nI (tw k)))), (f1, .inl (T 0, 60, .inl (fun k => nI (fN (eig (tw k))))))]) := by
  refine Hm.of (by decide) (Nat.le_of_ble_eq_true rfl) ?_
  intro zp ze s zm args below zmeth zc hx hb hr hml hown hin hts hlocks A hA hP hK hD hS ls hl
  have hl : lv_has ls 2 [(0, .ref x)] := hl
  refine lv_aload_n hx hb dX7_upperShare_0 rfl (lv_at hl 0 rfl) ?_
  refine va_get (D := D) (ci := 3) (v := .ref o) (C := RX7) (T := TX7) (N := 4) hx hb hts i_X7 hown hK hP 0 rfl rfl 2 (by decide) (hts _ u92) (fun _ h9 => h9) rfl dX7_upperShare_1 ?_
  refine zh_v (T := T) hx hb hml hown hts k_X7_179 (c_X4_height l D T o c1 f1 tw n0 ) ⟨by decide, by decide⟩ rfl hl.1 [] rfl (Nat.le_of_ble_eq_true rfl) dX7_upperShare_4 ⟨Nat.le_of_ble_eq_true rfl, Nat.le_of_ble_eq_true rfl⟩ hK hP hD hS hA (ci := 1) rfl rfl rfl [1, 2, 3] [0] (wr := [(x, .inr (3, [.ref vs, .ref es, .ref o, .ref t]))]) rfl rfl (by decide) (by decide) (by decide) [0, 1, 2, 3] (fun _ => [(x, .inr (3, [.ref vs, .ref es, .ref o, .ref t])), (o, .inr (1, [.ref c1, .ref f1, .int (nI n0), .int (nI (htN tw n0))])), (c1, .inl (T 0, 60, .inl (fun k => nI (tw k)))), (f1, .inl (T 0, 60, .inl (fun k => nI (fN (eig (tw k))))))]) (by decide) (fun _ => rfl) (fun _ H locs hP hD hS => ?_)
  have hP : va_P D zcl [(x, .inr (3, [.ref vs, .ref es, .ref o, .ref t])), (o, .inr (1, [.ref c1, .ref f1, .int (nI n0), .int (nI (htN tw n0))])), (c1, .inl (T 0, 60, .inl (fun k => nI (tw k)))), (f1, .inl (T 0, 60, .inl (fun k => nI (fN (eig (tw k))))))] H := hP
  have hD : va_D A [(x, .inr (3, [.ref vs, .ref es, .ref o, .ref t])), (o, .inr (1, [.ref c1, .ref f1, .int (nI n0), .int (nI (htN tw n0))])), (c1, .inl (T 0, 60, .inl (fun k => nI (tw k)))), (f1, .inl (T 0, 60, .inl (fun k => nI (fN (eig (tw k))))))] := hD
  refine lv_istore_n (lv' := [(1, .int (nI (htN tw n0))), (0, .ref x)]) hx hb dX7_upperShare_7 rfl hl (by decide) rfl (fun ls hl => ?_)
  refine lv_iload_n hx hb dX7_upperShare_8 rfl (lv_at hl 0 rfl) ?_
  refine lv_if_ne (tgt := 16) hx hb dX7_upperShare_9 (by decide) (fun h1 => ?_) (fun h1 => ?_)
  · exact absurd (show nI (htN tw n0) = 0 by rw [hn]; rfl) h1
  · refine lv_fconst0 hx hb dX7_upperShare_12 ?_
    refine lv_goto (tgt := 27) hx hb dX7_upperShare_13 (by decide) ?_
    exact zh_fret () hx hb hr hlocks dX7_upperShare_27 hP hD hS (by rw [shF, if_pos hn]) (rfl)
set_option maxRecDepth 20000 in
theorem c_X7_upperShare_n (l : Launch) (D : va_G) (T : Nat → ClassId) (x vs es o t c1 f1 : Nat) (tw : Nat → Nat) (n1 : Nat) (hn : n1 < 60) (hp0 : 0 < htN tw (n1 + 1)) : Hm l yX7_upperShare cX7_upperShare 2 (some FieldType.float) 2 0 0 D T [.ref x] [(x, .inr (3, [.ref vs, .ref es, .ref o, .ref t])), (o, .inr (1, [.ref c1, .ref f1, .int (nI (n1 + 1)), .int (nI (htN tw (n1 + 1)))])), (c1, .inl (T 0, 60, .inl (fun k => nI (tw k)))), (f1, .inl (T 0, 60, .inl (fun k => nI (fN (eig (tw k))))))] (some (.float (shF tw (n1 + 1)))) (fun _ : Unit => [(x, .inr (3, [.ref vs, .ref es, .ref o, .ref t])), (o, .inr (1, [.ref c1, .ref f1, .int (nI (n1 + 1)), .int (nI (htN tw (n1 + 1)))])), (c1, .inl (T 0, 60, .inl (fun k => nI (tw k)))), (f1, .inl (T 0, 60, .inl (fun k => nI (fN (eig (tw k))))))]) := by
  refine Hm.of (by decide) (Nat.le_of_ble_eq_true rfl) ?_
  intro zp ze s zm args below zmeth zc hx hb hr hml hown hin hts hlocks A hA hP hK hD hS ls hl
  have hl : lv_has ls 2 [(0, .ref x)] := hl
  have hh := htN_lt tw (n1 + 1)
  refine lv_aload_n hx hb dX7_upperShare_0 rfl (lv_at hl 0 rfl) ?_
  refine va_get (D := D) (ci := 3) (v := .ref o) (C := RX7) (T := TX7) (N := 4) hx hb hts i_X7 hown hK hP 0 rfl rfl 2 (by decide) (hts _ u92) (fun _ h9 => h9) rfl dX7_upperShare_1 ?_
  refine zh_v (T := T) hx hb hml hown hts k_X7_179 (c_X4_height l D T o c1 f1 tw (n1 + 1) ) ⟨by decide, by decide⟩ rfl hl.1 [] rfl (Nat.le_of_ble_eq_true rfl) dX7_upperShare_4 ⟨Nat.le_of_ble_eq_true rfl, Nat.le_of_ble_eq_true rfl⟩ hK hP hD hS hA (ci := 1) rfl rfl rfl [1, 2, 3] [0] (wr := [(x, .inr (3, [.ref vs, .ref es, .ref o, .ref t]))]) rfl rfl (by decide) (by decide) (by decide) [0, 1, 2, 3] (fun _ => [(x, .inr (3, [.ref vs, .ref es, .ref o, .ref t])), (o, .inr (1, [.ref c1, .ref f1, .int (nI (n1 + 1)), .int (nI (htN tw (n1 + 1)))])), (c1, .inl (T 0, 60, .inl (fun k => nI (tw k)))), (f1, .inl (T 0, 60, .inl (fun k => nI (fN (eig (tw k))))))]) (by decide) (fun _ => rfl) (fun _ H locs hP hD hS => ?_)
  have hP : va_P D zcl [(x, .inr (3, [.ref vs, .ref es, .ref o, .ref t])), (o, .inr (1, [.ref c1, .ref f1, .int (nI (n1 + 1)), .int (nI (htN tw (n1 + 1)))])), (c1, .inl (T 0, 60, .inl (fun k => nI (tw k)))), (f1, .inl (T 0, 60, .inl (fun k => nI (fN (eig (tw k))))))] H := hP
  have hD : va_D A [(x, .inr (3, [.ref vs, .ref es, .ref o, .ref t])), (o, .inr (1, [.ref c1, .ref f1, .int (nI (n1 + 1)), .int (nI (htN tw (n1 + 1)))])), (c1, .inl (T 0, 60, .inl (fun k => nI (tw k)))), (f1, .inl (T 0, 60, .inl (fun k => nI (fN (eig (tw k))))))] := hD
  refine lv_istore_n (lv' := [(1, .int (nI (htN tw (n1 + 1)))), (0, .ref x)]) hx hb dX7_upperShare_7 rfl hl (by decide) rfl (fun ls hl => ?_)
  refine lv_iload_n hx hb dX7_upperShare_8 rfl (lv_at hl 0 rfl) ?_
  refine lv_if_ne (tgt := 16) hx hb dX7_upperShare_9 (by decide) (fun h1 => ?_) (fun h1 => ?_)
  · refine lv_aload_n hx hb dX7_upperShare_16 rfl (lv_at hl 1 rfl) ?_
    refine va_get (D := D) (ci := 3) (v := .ref o) (C := RX7) (T := TX7) (N := 4) hx hb hts i_X7 hown hK hP 0 rfl rfl 2 (by decide) (hts _ u92) (fun _ h9 => h9) rfl dX7_upperShare_17 ?_
    refine zh_v (T := T) hx hb hml hown hts k_X7_205 (c_X4_uppermostFine l D T o c1 f1 tw 0 n1 (by omega)) ⟨by decide, by decide⟩ rfl hl.1 [] rfl (Nat.le_of_ble_eq_true rfl) dX7_upperShare_20 ⟨Nat.le_of_ble_eq_true rfl, Nat.le_of_ble_eq_true rfl⟩ hK hP hD hS hA (ci := 1) rfl rfl rfl [1, 2, 3] [0] (wr := [(x, .inr (3, [.ref vs, .ref es, .ref o, .ref t]))]) rfl rfl (by decide) (by decide) (by decide) [0, 1, 2, 3] (fun _ => [(x, .inr (3, [.ref vs, .ref es, .ref o, .ref t])), (o, .inr (1, [.ref c1, .ref f1, .int (nI (n1 + 1)), .int (nI (htN tw (n1 + 1)))])), (c1, .inl (T 0, 60, .inl (fun k => nI (tw k)))), (f1, .inl (T 0, 60, .inl (fun k => nI (fN (eig (tw k))))))]) (by decide) (fun _ => rfl) (fun _ H locs hP hD hS => ?_)
    have hP : va_P D zcl [(x, .inr (3, [.ref vs, .ref es, .ref o, .ref t])), (o, .inr (1, [.ref c1, .ref f1, .int (nI (n1 + 1)), .int (nI (htN tw (n1 + 1)))])), (c1, .inl (T 0, 60, .inl (fun k => nI (tw k)))), (f1, .inl (T 0, 60, .inl (fun k => nI (fN (eig (tw k))))))] H := hP
    have hD : va_D A [(x, .inr (3, [.ref vs, .ref es, .ref o, .ref t])), (o, .inr (1, [.ref c1, .ref f1, .int (nI (n1 + 1)), .int (nI (htN tw (n1 + 1)))])), (c1, .inl (T 0, 60, .inl (fun k => nI (tw k)))), (f1, .inl (T 0, 60, .inl (fun k => nI (fN (eig (tw k))))))] := hD
    refine lv_i2f hx hb dX7_upperShare_23 ?_
    refine lv_iload_n hx hb dX7_upperShare_24 rfl (lv_at hl 0 rfl) ?_
    refine lv_i2f hx hb dX7_upperShare_25 ?_
    refine lv_fdiv hx hb dX7_upperShare_26 (nn_share hp0 (by omega)) ?_
    exact zh_fret () hx hb hr hlocks dX7_upperShare_27 hP hD hS (by rw [shF, if_neg (by omega)]; rfl) (rfl)
  · exact absurd h1 (nI_ne0 hp0 (by omega))
set_option maxRecDepth 20000 in
theorem c_X7_checksum_ok (l : Launch) (D : va_G) (T : Nat → ClassId) (x vs es o t c1 f1 : Nat) (yv tw : Nat → Nat) (n0 : Nat) (hn : n0 ≤ 60) (hy : ∀ k, yv k < 262144) (ht : ∀ k, tw k < 262144) (hb0 : ∀ k, k < n0 → isB (tw k) = false) : Hm l yX7_checksum cX7_checksum 4 (some FieldType.long) 4 0 0 D T [.ref x] [(x, .inr (3, [.ref vs, .ref es, .ref o, .ref t])), (vs, .inl (T 0, 8, .inl (fun k => nI (yv k)))), (es, .inl (T 1, 8, .inr (.inl (fun k => edge (yv k))))), (o, .inr (1, [.ref c1, .ref f1, .int (nI n0), .int (nI (htN tw n0))])), (c1, .inl (T 0, 60, .inl (fun k => nI (tw k)))), (f1, .inl (T 0, 60, .inl (fun k => nI (fN (eig (tw k))))))] (some (.long (ckA yv tw n0))) (fun _ : Unit => [(x, .inr (3, [.ref vs, .ref es, .ref o, .ref t])), (vs, .inl (T 0, 8, .inl (fun k => nI (yv k)))), (es, .inl (T 1, 8, .inr (.inl (fun k => edge (yv k))))), (o, .inr (1, [.ref c1, .ref f1, .int (nI n0), .int (nI (htN tw n0))])), (c1, .inl (T 0, 60, .inl (fun k => nI (tw k)))), (f1, .inl (T 0, 60, .inl (fun k => nI (fN (eig (tw k))))))]) := by
  refine Hm.of (by decide) (Nat.le_of_ble_eq_true rfl) ?_
  intro zp ze s zm args below zmeth zc hx hb hr hml hown hin hts hlocks A hA hP hK hD hS ls hl
  have hl : lv_has ls 4 [(0, .ref x)] := hl
  refine lv_ldc2 hx hb hown (hts _ u153) dX7_checksum_0 ?_
  refine zf_l (x' := ckY yv 0) (rfl) ?_
  refine lv_lstore_n (lv' := [(1, .long (ckY yv 0)), (0, .ref x)]) hx hb dX7_checksum_3 rfl hl (by decide) rfl (fun ls hl => ?_)
  refine lv_iconst (v := 0) hx hb dX7_checksum_4 (by decide) ?_
  refine zf_i (x' := nI 0) (rfl) ?_
  refine lv_istore_n (lv' := [(3, .int (nI 0)), (1, .long (ckY yv 0)), (0, .ref x)]) hx hb dX7_checksum_5 rfl hl (by decide) rfl (fun ls hl => ?_)
  have lp : ∀ (n : Nat) (i : Nat), i + n = 8 → ∀ (H : Heap) (locs : List Loc), va_P D zcl [(x, .inr (3, [.ref vs, .ref es, .ref o, .ref t])), (vs, .inl (T 0, 8, .inl (fun k => nI (yv k)))), (es, .inl (T 1, 8, .inr (.inl (fun k => edge (yv k))))), (o, .inr (1, [.ref c1, .ref f1, .int (nI n0), .int (nI (htN tw n0))])), (c1, .inl (T 0, 60, .inl (fun k => nI (tw k)))), (f1, .inl (T 0, 60, .inl (fun k => nI (fN (eig (tw k))))))] H → va_D A [(x, .inr (3, [.ref vs, .ref es, .ref o, .ref t])), (vs, .inl (T 0, 8, .inl (fun k => nI (yv k)))), (es, .inl (T 1, 8, .inr (.inl (fun k => edge (yv k))))), (o, .inr (1, [.ref c1, .ref f1, .int (nI n0), .int (nI (htN tw n0))])), (c1, .inl (T 0, 60, .inl (fun k => nI (tw k)))), (f1, .inl (T 0, 60, .inl (fun k => nI (fN (eig (tw k))))))] → va_S A s.heap H locs → ∀ ls : Array Slot, lv_has ls 4 [(0, .ref x), (1, .long (ckY yv i)), (3, .int (nI i))] → W zp l ze (zR 4 0 0) s zm args below zmeth zc H locs 0 0 (MQ below (zQh D A (some (.long (ckA yv tw n0))) (fun _ : Unit => [(x, .inr (3, [.ref vs, .ref es, .ref o, .ref t])), (vs, .inl (T 0, 8, .inl (fun k => nI (yv k)))), (es, .inl (T 1, 8, .inr (.inl (fun k => edge (yv k))))), (o, .inr (1, [.ref c1, .ref f1, .int (nI n0), .int (nI (htN tw n0))])), (c1, .inl (T 0, 60, .inl (fun k => nI (tw k)))), (f1, .inl (T 0, 60, .inl (fun k => nI (fN (eig (tw k))))))])) args s 0 0 A) (F0 zm 6 ls []) := by
    intro n
    induction n with
    | zero =>
      intro i hi H locs hP hD hS ls hl
      have hik : i = 8 := by omega
      rw [hik] at hl
      refine lv_iload_n hx hb dX7_checksum_6 rfl (lv_at hl 2 rfl) ?_
      refine lv_bipush (v := 8) hx hb dX7_checksum_7 (by decide) ?_
      refine lv_icmp_ge (tgt := 69) hx hb dX7_checksum_9 (by decide) (fun h1 => ?_) (fun h1 => ?_)
      · refine lv_aload_n hx hb dX7_checksum_69 rfl (lv_at hl 0 rfl) ?_
        refine va_get (D := D) (ci := 3) (v := .ref o) (C := RX7) (T := TX7) (N := 4) hx hb hts i_X7 hown hK hP 0 rfl rfl 2 (by decide) (hts _ u92) (fun _ h9 => h9) rfl dX7_checksum_70 ?_
        refine lv_lload_n hx hb dX7_checksum_73 rfl (lv_at hl 1 rfl) ?_
        refine zh_v (T := T) hx hb hml hown hts k_X7_212 (c_X4_checksumAfter l D T o c1 f1 tw n0 (ckY yv 8) (by omega) ht hb0) ⟨by decide, by decide⟩ rfl hl.1 [] rfl (Nat.le_of_ble_eq_true rfl) dX7_checksum_74 ⟨Nat.le_of_ble_eq_true rfl, Nat.le_of_ble_eq_true rfl⟩ hK hP hD hS hA (ci := 1) rfl rfl rfl [3, 4, 5] [0, 1, 2] (wr := [(x, .inr (3, [.ref vs, .ref es, .ref o, .ref t])), (vs, .inl (T 0, 8, .inl (fun k => nI (yv k)))), (es, .inl (T 1, 8, .inr (.inl (fun k => edge (yv k)))))]) rfl rfl (by decide) (by decide) (by decide) [0, 1, 2, 3, 4, 5] (fun _ => [(x, .inr (3, [.ref vs, .ref es, .ref o, .ref t])), (vs, .inl (T 0, 8, .inl (fun k => nI (yv k)))), (es, .inl (T 1, 8, .inr (.inl (fun k => edge (yv k))))), (o, .inr (1, [.ref c1, .ref f1, .int (nI n0), .int (nI (htN tw n0))])), (c1, .inl (T 0, 60, .inl (fun k => nI (tw k)))), (f1, .inl (T 0, 60, .inl (fun k => nI (fN (eig (tw k))))))]) (by decide) (fun _ => rfl) (fun _ H locs hP hD hS => ?_)
        have hP : va_P D zcl [(x, .inr (3, [.ref vs, .ref es, .ref o, .ref t])), (vs, .inl (T 0, 8, .inl (fun k => nI (yv k)))), (es, .inl (T 1, 8, .inr (.inl (fun k => edge (yv k))))), (o, .inr (1, [.ref c1, .ref f1, .int (nI n0), .int (nI (htN tw n0))])), (c1, .inl (T 0, 60, .inl (fun k => nI (tw k)))), (f1, .inl (T 0, 60, .inl (fun k => nI (fN (eig (tw k))))))] H := hP
        have hD : va_D A [(x, .inr (3, [.ref vs, .ref es, .ref o, .ref t])), (vs, .inl (T 0, 8, .inl (fun k => nI (yv k)))), (es, .inl (T 1, 8, .inr (.inl (fun k => edge (yv k))))), (o, .inr (1, [.ref c1, .ref f1, .int (nI n0), .int (nI (htN tw n0))])), (c1, .inl (T 0, 60, .inl (fun k => nI (tw k)))), (f1, .inl (T 0, 60, .inl (fun k => nI (fN (eig (tw k))))))] := hD
        exact zh_lret () hx hb hr hlocks dX7_checksum_77 hP hD hS (rfl) (rfl)
      · exact absurd (show (8 : Int32) ≤ nI 8 by decide) h1
    | succ n ih =>
      intro i hi H locs hP hD hS ls hl
      have hi8 : i < 8 := by omega
      refine lv_iload_n hx hb dX7_checksum_6 rfl (lv_at hl 2 rfl) ?_
      refine lv_bipush (v := 8) hx hb dX7_checksum_7 (by decide) ?_
      refine lv_icmp_ge (tgt := 69) hx hb dX7_checksum_9 (by decide) (fun h2 => ?_) (fun h2 => ?_)
      · exact absurd h2 (show ¬ nI 8 ≤ nI i from nI_ge (by omega) (by decide))
      · refine lv_ldc2 hx hb hown (hts _ u154) dX7_checksum_12 ?_
        refine lv_lload_n hx hb dX7_checksum_15 rfl (lv_at hl 1 rfl) ?_
        refine lv_lmul hx hb dX7_checksum_16 ?_
        refine lv_aload_n hx hb dX7_checksum_17 rfl (lv_at hl 0 rfl) ?_
        refine va_get (D := D) (ci := 3) (v := .ref vs) (C := RX7) (T := TX7) (N := 4) hx hb hts i_X7 hown hK hP 0 rfl rfl 0 (by decide) (hts _ u90) (fun _ h9 => h9) rfl dX7_checksum_18 ?_
        refine lv_iload_n hx hb dX7_checksum_21 rfl (lv_at hl 2 rfl) ?_
        refine za_iald hx hb hK hP 1 rfl i (rfl) (by omega) (by decide) dX7_checksum_22 ?_
        refine zp_call hx hb hml hown hts k_X7_62 (c_X5_signedOf l (nI (yv i))) ⟨by decide, by decide⟩ rfl hl.1 [.long (31 * (ckY yv i))] rfl (Nat.le_of_ble_eq_true rfl) dX7_checksum_23 ⟨Nat.le_of_ble_eq_true rfl, Nat.le_of_ble_eq_true rfl⟩ ?_
        refine zf_i (x' := sgI (yv i)) (mv_signed (hy i)) ?_
        refine lv_i2l hx hb dX7_checksum_26 rfl ?_
        refine lv_ladd hx hb dX7_checksum_27 ?_
        refine lv_lstore_n (lv' := [(1, .long ((31 * (ckY yv i)) + (Int32.toInt64 (sgI (yv i))))), (0, .ref x), (3, .int (nI i))]) hx hb dX7_checksum_28 rfl hl (by decide) rfl (fun ls hl => ?_)
        refine lv_ldc2 hx hb hown (hts _ u154) dX7_checksum_29 ?_
        refine lv_lload_n hx hb dX7_checksum_32 rfl (lv_at hl 0 rfl) ?_
        refine lv_lmul hx hb dX7_checksum_33 ?_
        refine lv_aload_n hx hb dX7_checksum_34 rfl (lv_at hl 1 rfl) ?_
        refine va_get (D := D) (ci := 3) (v := .ref vs) (C := RX7) (T := TX7) (N := 4) hx hb hts i_X7 hown hK hP 0 rfl rfl 0 (by decide) (hts _ u90) (fun _ h9 => h9) rfl dX7_checksum_35 ?_
        refine lv_iload_n hx hb dX7_checksum_38 rfl (lv_at hl 2 rfl) ?_
        refine za_iald hx hb hK hP 1 rfl i (rfl) (by omega) (by decide) dX7_checksum_39 ?_
        refine zp_call hx hb hml hown hts k_X7_66 (c_X5_kindOf l (nI (yv i))) ⟨by decide, by decide⟩ rfl hl.1 [.long (31 * ((31 * (ckY yv i)) + (Int32.toInt64 (sgI (yv i)))))] rfl (Nat.le_of_ble_eq_true rfl) dX7_checksum_40 ⟨Nat.le_of_ble_eq_true rfl, Nat.le_of_ble_eq_true rfl⟩ ?_
        refine zf_i (x' := nI (yv i % 4)) (mv_kind _) ?_
        refine lv_i2l hx hb dX7_checksum_43 rfl ?_
        refine zf_l (x' := lN (yv i % 4)) (nI_l (by omega)) ?_
        refine lv_ladd hx hb dX7_checksum_44 ?_
        refine lv_lstore_n (lv' := [(1, .long ((31 * ((31 * (ckY yv i)) + (Int32.toInt64 (sgI (yv i))))) + (lN (yv i % 4)))), (0, .ref x), (3, .int (nI i))]) hx hb dX7_checksum_45 rfl hl (by decide) rfl (fun ls hl => ?_)
        refine lv_ldc2 hx hb hown (hts _ u154) dX7_checksum_46 ?_
        refine lv_lload_n hx hb dX7_checksum_49 rfl (lv_at hl 0 rfl) ?_
        refine lv_lmul hx hb dX7_checksum_50 ?_
        refine lv_aload_n hx hb dX7_checksum_51 rfl (lv_at hl 1 rfl) ?_
        refine va_get (D := D) (ci := 3) (v := .ref es) (C := RX7) (T := TX7) (N := 4) hx hb hts i_X7 hown hK hP 0 rfl rfl 1 (by decide) (hts _ u91) (fun _ h9 => h9) rfl dX7_checksum_52 ?_
        refine lv_iload_n hx hb dX7_checksum_55 rfl (lv_at hl 2 rfl) ?_
        refine za_lald hx hb hK hP 2 rfl i (rfl) (by omega) (by decide) dX7_checksum_56 ?_
        refine zp_call hx hb hml hown hts k_X7_56 (c_X2_fineOf l (edge (yv i))) ⟨by decide, by decide⟩ rfl hl.1 [.long (31 * ((31 * ((31 * (ckY yv i)) + (Int32.toInt64 (sgI (yv i))))) + (lN (yv i % 4))))] rfl (Nat.le_of_ble_eq_true rfl) dX7_checksum_57 ⟨by decide, by decide⟩ ?_
        refine zf_i (x' := fI (yv i)) (ed_fine (hy i)) ?_
        refine lv_i2l hx hb dX7_checksum_60 rfl ?_
        refine lv_ladd hx hb dX7_checksum_61 ?_
        refine zf_l (x' := ckY yv (i + 1)) (rfl) ?_
        refine lv_lstore_n (lv' := [(1, .long (ckY yv (i + 1))), (0, .ref x), (3, .int (nI i))]) hx hb dX7_checksum_62 rfl hl (by decide) rfl (fun ls hl => ?_)
        refine lv_iinc (v := (nI (i + 1))) (lv' := [(3, .int (nI (i + 1))), (1, .long (ckY yv (i + 1))), (0, .ref x)]) hx hb dX7_checksum_63 hl (k := 2) rfl (nI_1 i) (by decide) rfl (fun ls hl => ?_)
        refine lv_goto (tgt := 6) hx hb dX7_checksum_66 (by decide) ?_
        exact ih (i + 1) (by omega) _ _ hP hD hS ls (lv_sub hl [2, 1, 0] rfl)
  exact lp 8 0 (by omega) _ _ hP hD hS ls (lv_sub hl [2, 1, 0] rfl)
set_option maxRecDepth 20000 in
theorem c_X7_isNear_ok (l : Launch) (D : va_G) (T : Nat → ClassId) (x vs es o t bl fl br fr bg fg : Nat) (yv : Nat → Nat) (NL NR NG : Nat) (p : Nat) (hp : p < 8) (hy : ∀ k, yv k < 262144) : Hm l yX7_isNear cX7_isNear 2 (some FieldType.boolean) 4 0 0 D T [.ref x, .int (nI p)] [(x, .inr (3, [.ref vs, .ref es, .ref o, .ref t])), (vs, .inl (T 0, 8, .inl (fun k => nI (yv k)))), (es, .inl (T 1, 8, .inr (.inl (fun k => edge (yv k))))), (t, .inr (0, [.ref bl, .ref br, .ref bg])), (bl, .inr (2, [.ref fl])), (fl, .inl (T 1, 7, .inr (.inl (fun i => lN (lb NL i))))), (br, .inr (2, [.ref fr])), (fr, .inl (T 1, 7, .inr (.inl (fun i => lN (lb NR i))))), (bg, .inr (2, [.ref fg])), (fg, .inl (T 1, 7, .inr (.inl (fun i => lN (lb NG i)))))] (some (.int (bI true))) (fun g : Nat × Nat × Nat => [(x, .inr (3, [.ref vs, .ref es, .ref o, .ref t])), (vs, .inl (T 0, 8, .inl (fun k => nI (yv k)))), (es, .inl (T 1, 8, .inr (.inl (fun k => edge (yv k))))), (t, .inr (0, [.ref bl, .ref br, .ref bg])), (bl, .inr (2, [.ref fl])), (fl, .inl (T 1, 7, .inr (.inl (fun i => lN (lb g.1 i))))), (br, .inr (2, [.ref fr])), (fr, .inl (T 1, 7, .inr (.inl (fun i => lN (lb g.2.1 i))))), (bg, .inr (2, [.ref fg])), (fg, .inl (T 1, 7, .inr (.inl (fun i => lN (lb g.2.2 i)))))]) := by
  refine Hm.of (by decide) (Nat.le_of_ble_eq_true rfl) ?_
  intro zp ze s zm args below zmeth zc hx hb hr hml hown hin hts hlocks A hA hP hK hD hS ls hl
  have hl : lv_has ls 2 [(0, .ref x), (1, .int (nI p))] := hl
  refine lv_iload_n hx hb dX7_isNear_0 rfl (lv_at hl 1 rfl) ?_
  refine zp_callv hx hb hml hown hts k_X7_31 (c_needPlace l (nI p) (is_ok hp)) ⟨by decide, by decide⟩ rfl hl.1 [] rfl (Nat.le_of_ble_eq_true rfl) dX7_isNear_1 ⟨Nat.le_of_ble_eq_true rfl, Nat.le_of_ble_eq_true rfl⟩ ?_
  refine lv_aload_n hx hb dX7_isNear_4 rfl (lv_at hl 0 rfl) ?_
  refine va_get (D := D) (ci := 3) (v := .ref vs) (C := RX7) (T := TX7) (N := 4) hx hb hts i_X7 hown hK hP 0 rfl rfl 0 (by decide) (hts _ u90) (fun _ h9 => h9) rfl dX7_isNear_5 ?_
  refine lv_iload_n hx hb dX7_isNear_8 rfl (lv_at hl 1 rfl) ?_
  refine za_iald hx hb hK hP 1 rfl p (rfl) (by omega) (by decide) dX7_isNear_9 ?_
  refine zp_call hx hb hml hown hts k_X7_86 (c_X5_countOf l (nI (yv p))) ⟨by decide, by decide⟩ rfl hl.1 [] rfl (Nat.le_of_ble_eq_true rfl) dX7_isNear_10 ⟨by decide, by decide⟩ ?_
  refine zf_i (x' := nI (yv p / 4)) (mv_count (hy p)) ?_
  refine lv_if_ne (tgt := 51) hx hb dX7_isNear_13 (by decide) (fun h1 => ?_) (fun h1 => ?_)
  · refine lv_aload_n hx hb dX7_isNear_51 rfl (lv_at hl 0 rfl) ?_
    refine va_get (D := D) (ci := 3) (v := .ref t) (C := RX7) (T := TX7) (N := 4) hx hb hts i_X7 hown hK hP 0 rfl rfl 3 (by decide) (hts _ u93) (fun _ h9 => h9) rfl dX7_isNear_52 ?_
    refine lv_aload_n hx hb dX7_isNear_55 rfl (lv_at hl 0 rfl) ?_
    refine va_get (D := D) (ci := 3) (v := .ref vs) (C := RX7) (T := TX7) (N := 4) hx hb hts i_X7 hown hK hP 0 rfl rfl 0 (by decide) (hts _ u90) (fun _ h9 => h9) rfl dX7_isNear_56 ?_
    refine lv_iload_n hx hb dX7_isNear_59 rfl (lv_at hl 1 rfl) ?_
    refine za_iald hx hb hK hP 1 rfl p (rfl) (by omega) (by decide) dX7_isNear_60 ?_
    refine zp_call hx hb hml hown hts k_X7_126 (c_X5_eighthsOf l (nI (yv p))) ⟨by decide, by decide⟩ rfl hl.1 [.ref t] rfl (Nat.le_of_ble_eq_true rfl) dX7_isNear_61 ⟨Nat.le_of_ble_eq_true rfl, Nat.le_of_ble_eq_true rfl⟩ ?_
    refine zf_i (x' := nI (eig (yv p))) (mv_eig (hy p)) ?_
    refine lv_aload_n hx hb dX7_isNear_64 rfl (lv_at hl 0 rfl) ?_
    refine va_get (D := D) (ci := 3) (v := .ref es) (C := RX7) (T := TX7) (N := 4) hx hb hts i_X7 hown hK hP 0 rfl rfl 1 (by decide) (hts _ u91) (fun _ h9 => h9) rfl dX7_isNear_65 ?_
    refine lv_iload_n hx hb dX7_isNear_68 rfl (lv_at hl 1 rfl) ?_
    refine za_lald hx hb hK hP 2 rfl p (rfl) (by omega) (by decide) dX7_isNear_69 ?_
    refine zh_v (T := T) hx hb hml hown hts k_X7_129 (c_isBetweenCubes l D T t bl fl br fr bg fg NL NR NG (yv p) (hy p) (eig_pos h1)) ⟨by decide, by decide⟩ rfl hl.1 [] rfl (Nat.le_of_ble_eq_true rfl) dX7_isNear_70 ⟨Nat.le_of_ble_eq_true rfl, Nat.le_of_ble_eq_true rfl⟩ hK hP hD hS hA (ci := 0) rfl rfl rfl [3, 4, 5, 6, 7, 8, 9] [0, 1, 2] (wr := [(x, .inr (3, [.ref vs, .ref es, .ref o, .ref t])), (vs, .inl (T 0, 8, .inl (fun k => nI (yv k)))), (es, .inl (T 1, 8, .inr (.inl (fun k => edge (yv k)))))]) rfl rfl (by decide) (by decide) (by decide) [0, 1, 2, 3, 4, 5, 6, 7, 8, 9] (fun x4 => [(x, .inr (3, [.ref vs, .ref es, .ref o, .ref t])), (vs, .inl (T 0, 8, .inl (fun k => nI (yv k)))), (es, .inl (T 1, 8, .inr (.inl (fun k => edge (yv k))))), (t, .inr (0, [.ref bl, .ref br, .ref bg])), (bl, .inr (2, [.ref fl])), (fl, .inl (T 1, 7, .inr (.inl (fun i => lN (lb x4.1 i))))), (br, .inr (2, [.ref fr])), (fr, .inl (T 1, 7, .inr (.inl (fun i => lN (lb x4.2.1 i))))), (bg, .inr (2, [.ref fg])), (fg, .inl (T 1, 7, .inr (.inl (fun i => lN (lb x4.2.2 i)))))]) (by decide) (fun _ => rfl) (fun x4 H locs hP hD hS => ?_)
    have hP : va_P D zcl [(x, .inr (3, [.ref vs, .ref es, .ref o, .ref t])), (vs, .inl (T 0, 8, .inl (fun k => nI (yv k)))), (es, .inl (T 1, 8, .inr (.inl (fun k => edge (yv k))))), (t, .inr (0, [.ref bl, .ref br, .ref bg])), (bl, .inr (2, [.ref fl])), (fl, .inl (T 1, 7, .inr (.inl (fun i => lN (lb x4.1 i))))), (br, .inr (2, [.ref fr])), (fr, .inl (T 1, 7, .inr (.inl (fun i => lN (lb x4.2.1 i))))), (bg, .inr (2, [.ref fg])), (fg, .inl (T 1, 7, .inr (.inl (fun i => lN (lb x4.2.2 i)))))] H := hP
    have hD : va_D A [(x, .inr (3, [.ref vs, .ref es, .ref o, .ref t])), (vs, .inl (T 0, 8, .inl (fun k => nI (yv k)))), (es, .inl (T 1, 8, .inr (.inl (fun k => edge (yv k))))), (t, .inr (0, [.ref bl, .ref br, .ref bg])), (bl, .inr (2, [.ref fl])), (fl, .inl (T 1, 7, .inr (.inl (fun i => lN (lb x4.1 i))))), (br, .inr (2, [.ref fr])), (fr, .inl (T 1, 7, .inr (.inl (fun i => lN (lb x4.2.1 i))))), (bg, .inr (2, [.ref fg])), (fg, .inl (T 1, 7, .inr (.inl (fun i => lN (lb x4.2.2 i)))))] := hD
    exact zh_zret (x4.1, x4.2.1, x4.2.2) hx hb hr hlocks dX7_isNear_73 hP hD hS (rfl) (rfl)
  · refine lv_aload_n hx hb dX7_isNear_16 rfl (lv_at hl 0 rfl) ?_
    refine va_get (D := D) (ci := 3) (v := .ref es) (C := RX7) (T := TX7) (N := 4) hx hb hts i_X7 hown hK hP 0 rfl rfl 1 (by decide) (hts _ u91) (fun _ h9 => h9) rfl dX7_isNear_17 ?_
    refine lv_iload_n hx hb dX7_isNear_20 rfl (lv_at hl 1 rfl) ?_
    refine za_lald hx hb hK hP 2 rfl p (rfl) (by omega) (by decide) dX7_isNear_21 ?_
    refine lv_aload_n hx hb dX7_isNear_22 rfl (lv_at hl 0 rfl) ?_
    refine va_get (D := D) (ci := 3) (v := .ref vs) (C := RX7) (T := TX7) (N := 4) hx hb hts i_X7 hown hK hP 0 rfl rfl 0 (by decide) (hts _ u90) (fun _ h9 => h9) rfl dX7_isNear_23 ?_
    refine lv_iload_n hx hb dX7_isNear_26 rfl (lv_at hl 1 rfl) ?_
    refine za_iald hx hb hK hP 1 rfl p (rfl) (by omega) (by decide) dX7_isNear_27 ?_
    refine zp_call hx hb hml hown hts k_X7_120 (c_X5_isBelow l (nI (yv p))) ⟨by decide, by decide⟩ rfl hl.1 [.long (edge (yv p))] rfl (Nat.le_of_ble_eq_true rfl) dX7_isNear_28 ⟨by decide, by decide⟩ ?_
    refine zf_z (x' := isB (yv p)) (congrArg bI (mv_below _)) ?_
    refine zb_eq (tgt := 40) hx hb dX7_isNear_31 (by decide) (fun h2 => ?_) (fun h2 => ?_)
    · refine lv_lconst (v := 0) hx hb dX7_isNear_40 (by decide) ?_
      refine zl_ne (tgt := 49) hx hb dX7_isNear_41 dX7_isNear_42 (by decide) (fun h3 => ?_) (fun h3 => ?_)
      · exact absurd (show edge (yv p) = 0 from (ed_zero (eig_cz (hy p) h1)).trans (by rw [h2]; rfl)) h3
      · refine lv_iconst (v := 1) hx hb dX7_isNear_45 (by decide) ?_
        refine lv_goto (tgt := 50) hx hb dX7_isNear_46 (by decide) ?_
        exact zh_zret (NL, NR, NG) hx hb hr hlocks dX7_isNear_50 hP hD hS (rfl) (rfl)
    · refine lv_ldc2 hx hb hown (hts _ u584) dX7_isNear_34 ?_
      refine lv_goto (tgt := 41) hx hb dX7_isNear_37 (by decide) ?_
      refine zl_ne (tgt := 49) hx hb dX7_isNear_41 dX7_isNear_42 (by decide) (fun h4 => ?_) (fun h4 => ?_)
      · exact absurd (show edge (yv p) = (-9223372036854775808) from (ed_zero (eig_cz (hy p) h1)).trans (by rw [h2]; rfl)) h4
      · refine lv_iconst (v := 1) hx hb dX7_isNear_45 (by decide) ?_
        refine lv_goto (tgt := 50) hx hb dX7_isNear_46 (by decide) ?_
        exact zh_zret (NL, NR, NG) hx hb hr hlocks dX7_isNear_50 hP hD hS (rfl) (rfl)
set_option maxRecDepth 20000 in
theorem t_X7_isNear_no (l : Launch) (hlf : l.stackTraces = false) (D : va_G) (T : Nat → ClassId) (x vs es o t : Nat) (yv : Nat → Nat) (x0 : Int32) (hx0 : m_X8_is x0 = false) : Tm l yX7_isNear cX7_isNear 2 (some FieldType.boolean) 7 D T [.ref x, .int x0] [(x, .inr (3, [.ref vs, .ref es, .ref o, .ref t])), (vs, .inl (T 0, 8, .inl (fun k => nI (yv k)))), (es, .inl (T 1, 8, .inr (.inl (fun k => edge (yv k)))))] "java/lang/IndexOutOfBoundsException" := by
  refine Tm.of (by decide) (Nat.le_of_ble_eq_true rfl) ?_
  intro zp ze s zm args below zmeth zc hx hb hr hml hown hts hlocks hout A hA hP hK hD hS hZ ls hl
  have hl : lv_has ls 2 [(0, .ref x), (1, .int x0)] := hl
  refine lv_iload_n hx hb dX7_isNear_0 rfl (lv_at hl 1 rfl) ?_
  refine zt_s (T := T) hx hb hml hown hts k_X7_31 (t_needPlace l hlf D T x0 hx0) ⟨by decide, by decide⟩ rfl hl.1 [] rfl (Nat.le_of_ble_eq_true rfl) dX7_isNear_1 ⟨Nat.le_of_ble_eq_true rfl, Nat.le_of_ble_eq_true rfl⟩ hK hP hD hS hA hZ [] [0, 1, 2] (wr := [(x, .inr (3, [.ref vs, .ref es, .ref o, .ref t])), (vs, .inl (T 0, 8, .inl (fun k => nI (yv k)))), (es, .inl (T 1, 8, .inr (.inl (fun k => edge (yv k)))))]) rfl rfl (by decide) (by decide) (by decide) [0, 1, 2] (by decide) rfl (fun ce q9 H locs hP hD hS hce hcv hcl => ?_)
  exact zt_out hlocks hout hP hD hS hce hcv hcl
set_option maxRecDepth 20000 in
theorem t_X7_multiply_no (l : Launch) (hlf : l.stackTraces = false) (D : va_G) (T : Nat → ClassId) (x vs es o t : Nat) (yv : Nat → Nat) (x0 y0 z0 : Int32) (hx0 : (m_X8_is x0 && m_X8_is y0 && m_X8_is z0) = false) : Tm l yX7_multiply cX7_multiply 9 (some FieldType.boolean) 7 D T [.ref x, .int x0, .int y0, .int z0] [(x, .inr (3, [.ref vs, .ref es, .ref o, .ref t])), (vs, .inl (T 0, 8, .inl (fun k => nI (yv k)))), (es, .inl (T 1, 8, .inr (.inl (fun k => edge (yv k)))))] "java/lang/IndexOutOfBoundsException" := by
  refine Tm.of (by decide) (Nat.le_of_ble_eq_true rfl) ?_
  intro zp ze s zm args below zmeth zc hx hb hr hml hown hts hlocks hout A hA hP hK hD hS hZ ls hl
  have hl : lv_has ls 9 [(0, .ref x), (1, .int x0), (2, .int y0), (3, .int z0)] := hl
  by_cases q1 : m_X8_is x0 = true
  · refine lv_iload_n hx hb dX7_multiply_0 rfl (lv_at hl 1 rfl) ?_
    refine zp_callv hx hb hml hown hts k_X7_31 (c_needPlace l x0 q1) ⟨by decide, by decide⟩ rfl hl.1 [] rfl (Nat.le_of_ble_eq_true rfl) dX7_multiply_1 ⟨Nat.le_of_ble_eq_true rfl, Nat.le_of_ble_eq_true rfl⟩ ?_
    by_cases q2 : m_X8_is y0 = true
    · refine lv_iload_n hx hb dX7_multiply_4 rfl (lv_at hl 2 rfl) ?_
      refine zp_callv hx hb hml hown hts k_X7_31 (c_needPlace l y0 q2) ⟨by decide, by decide⟩ rfl hl.1 [] rfl (Nat.le_of_ble_eq_true rfl) dX7_multiply_5 ⟨Nat.le_of_ble_eq_true rfl, Nat.le_of_ble_eq_true rfl⟩ ?_
      refine lv_iload_n hx hb dX7_multiply_8 rfl (lv_at hl 3 rfl) ?_
      refine zt_s (T := T) hx hb hml hown hts k_X7_31 (t_needPlace l hlf D T z0 (is_3 hx0 q1 q2)) ⟨by decide, by decide⟩ rfl hl.1 [] rfl (Nat.le_of_ble_eq_true rfl) dX7_multiply_9 ⟨Nat.le_of_ble_eq_true rfl, Nat.le_of_ble_eq_true rfl⟩ hK hP hD hS hA hZ [] [0, 1, 2] (wr := [(x, .inr (3, [.ref vs, .ref es, .ref o, .ref t])), (vs, .inl (T 0, 8, .inl (fun k => nI (yv k)))), (es, .inl (T 1, 8, .inr (.inl (fun k => edge (yv k)))))]) rfl rfl (by decide) (by decide) (by decide) [0, 1, 2] (by decide) rfl (fun ce q9 H locs hP hD hS hce hcv hcl => ?_)
      exact zt_out hlocks hout hP hD hS hce hcv hcl
    · refine lv_iload_n hx hb dX7_multiply_4 rfl (lv_at hl 2 rfl) ?_
      refine zt_s (T := T) hx hb hml hown hts k_X7_31 (t_needPlace l hlf D T y0 (is_f q2)) ⟨by decide, by decide⟩ rfl hl.1 [] rfl (Nat.le_of_ble_eq_true rfl) dX7_multiply_5 ⟨Nat.le_of_ble_eq_true rfl, Nat.le_of_ble_eq_true rfl⟩ hK hP hD hS hA hZ [] [0, 1, 2] (wr := [(x, .inr (3, [.ref vs, .ref es, .ref o, .ref t])), (vs, .inl (T 0, 8, .inl (fun k => nI (yv k)))), (es, .inl (T 1, 8, .inr (.inl (fun k => edge (yv k)))))]) rfl rfl (by decide) (by decide) (by decide) [0, 1, 2] (by decide) rfl (fun ce q9 H locs hP hD hS hce hcv hcl => ?_)
      exact zt_out hlocks hout hP hD hS hce hcv hcl
  · refine lv_iload_n hx hb dX7_multiply_0 rfl (lv_at hl 1 rfl) ?_
    refine zt_s (T := T) hx hb hml hown hts k_X7_31 (t_needPlace l hlf D T x0 (is_f q1)) ⟨by decide, by decide⟩ rfl hl.1 [] rfl (Nat.le_of_ble_eq_true rfl) dX7_multiply_1 ⟨Nat.le_of_ble_eq_true rfl, Nat.le_of_ble_eq_true rfl⟩ hK hP hD hS hA hZ [] [0, 1, 2] (wr := [(x, .inr (3, [.ref vs, .ref es, .ref o, .ref t])), (vs, .inl (T 0, 8, .inl (fun k => nI (yv k)))), (es, .inl (T 1, 8, .inr (.inl (fun k => edge (yv k)))))]) rfl rfl (by decide) (by decide) (by decide) [0, 1, 2] (by decide) rfl (fun ce q9 H locs hP hD hS hce hcv hcl => ?_)
    exact zt_out hlocks hout hP hD hS hce hcv hcl
set_option maxRecDepth 20000 in
theorem c_X7_multiply_ok (l : Launch) (D : va_G) (T : Nat → ClassId) (x vs es o t bl fl br fr bg fg : Nat) (yv : Nat → Nat) (NL NR NG : Nat) (p : Nat) (hp : p < 8) (p2 : Nat) (hp2 : p2 < 8) (p3 : Nat) (hp3 : p3 < 8) (hm : eig (yv p) * eig (yv p2) % 8 = 0) (hr0 : rdC (eig (yv p) * eig (yv p2) / 8) ≤ 65535) (hy : ∀ k, yv k < 262144) : Hm l yX7_multiply cX7_multiply 9 (some FieldType.boolean) 5 0 0 D T [.ref x, .int (nI p), .int (nI p2), .int (nI p3)] [(x, .inr (3, [.ref vs, .ref es, .ref o, .ref t])), (vs, .inl (T 0, 8, .inl (fun k => nI (yv k)))), (es, .inl (T 1, 8, .inr (.inl (fun k => edge (yv k))))), (t, .inr (0, [.ref bl, .ref br, .ref bg])), (bl, .inr (2, [.ref fl])), (fl, .inl (T 1, 7, .inr (.inl (fun i => lN (lb NL i))))), (br, .inr (2, [.ref fr])), (fr, .inl (T 1, 7, .inr (.inl (fun i => lN (lb NR i))))), (bg, .inr (2, [.ref fg])), (fg, .inl (T 1, 7, .inr (.inl (fun i => lN (lb NG i)))))] (some (.int (bI true))) (fun g : Nat × Nat × Nat => [(x, .inr (3, [.ref vs, .ref es, .ref o, .ref t])), (vs, .inl (T 0, 8, .inl (fun k => nI ((up yv p3 (rdV (eig (yv p) * eig (yv p2) / 8) (isB (yv p) != isB (yv p2)))) k)))), (es, .inl (T 1, 8, .inr (.inl (fun k => edge ((up yv p3 (rdV (eig (yv p) * eig (yv p2) / 8) (isB (yv p) != isB (yv p2)))) k))))), (t, .inr (0, [.ref bl, .ref br, .ref bg])), (bl, .inr (2, [.ref fl])), (fl, .inl (T 1, 7, .inr (.inl (fun i => lN (lb g.1 i))))), (br, .inr (2, [.ref fr])), (fr, .inl (T 1, 7, .inr (.inl (fun i => lN (lb g.2.1 i))))), (bg, .inr (2, [.ref fg])), (fg, .inl (T 1, 7, .inr (.inl (fun i => lN (lb g.2.2 i)))))]) := by
  refine Hm.of (by decide) (Nat.le_of_ble_eq_true rfl) ?_
  intro zp ze s zm args below zmeth zc hx hb hr hml hown hin hts hlocks A hA hP hK hD hS ls hl
  have hl : lv_has ls 9 [(0, .ref x), (1, .int (nI p)), (2, .int (nI p2)), (3, .int (nI p3))] := hl
  have hq := And.intro hm hr0
  refine lv_iload_n hx hb dX7_multiply_0 rfl (lv_at hl 1 rfl) ?_
  refine zp_callv hx hb hml hown hts k_X7_31 (c_needPlace l (nI p) (is_ok hp)) ⟨by decide, by decide⟩ rfl hl.1 [] rfl (Nat.le_of_ble_eq_true rfl) dX7_multiply_1 ⟨Nat.le_of_ble_eq_true rfl, Nat.le_of_ble_eq_true rfl⟩ ?_
  refine lv_iload_n hx hb dX7_multiply_4 rfl (lv_at hl 2 rfl) ?_
  refine zp_callv hx hb hml hown hts k_X7_31 (c_needPlace l (nI p2) (is_ok hp2)) ⟨by decide, by decide⟩ rfl hl.1 [] rfl (Nat.le_of_ble_eq_true rfl) dX7_multiply_5 ⟨Nat.le_of_ble_eq_true rfl, Nat.le_of_ble_eq_true rfl⟩ ?_
  refine lv_iload_n hx hb dX7_multiply_8 rfl (lv_at hl 3 rfl) ?_
  refine zp_callv hx hb hml hown hts k_X7_31 (c_needPlace l (nI p3) (is_ok hp3)) ⟨by decide, by decide⟩ rfl hl.1 [] rfl (Nat.le_of_ble_eq_true rfl) dX7_multiply_9 ⟨Nat.le_of_ble_eq_true rfl, Nat.le_of_ble_eq_true rfl⟩ ?_
  refine lv_aload_n hx hb dX7_multiply_12 rfl (lv_at hl 0 rfl) ?_
  refine va_get (D := D) (ci := 3) (v := .ref vs) (C := RX7) (T := TX7) (N := 4) hx hb hts i_X7 hown hK hP 0 rfl rfl 0 (by decide) (hts _ u90) (fun _ h9 => h9) rfl dX7_multiply_13 ?_
  refine lv_iload_n hx hb dX7_multiply_16 rfl (lv_at hl 1 rfl) ?_
  refine za_iald hx hb hK hP 1 rfl p (rfl) (by omega) (by decide) dX7_multiply_17 ?_
  refine lv_aload_n hx hb dX7_multiply_18 rfl (lv_at hl 0 rfl) ?_
  refine va_get (D := D) (ci := 3) (v := .ref vs) (C := RX7) (T := TX7) (N := 4) hx hb hts i_X7 hown hK hP 0 rfl rfl 0 (by decide) (hts _ u90) (fun _ h9 => h9) rfl dX7_multiply_19 ?_
  refine lv_iload_n hx hb dX7_multiply_22 rfl (lv_at hl 2 rfl) ?_
  refine za_iald hx hb hK hP 1 rfl p2 (rfl) (by omega) (by decide) dX7_multiply_23 ?_
  refine zp_call hx hb hml hown hts k_X7_133 (c_X5_productOf l (nI (yv p)) (nI (yv p2))) ⟨by decide, by decide⟩ rfl hl.1 [] rfl (Nat.le_of_ble_eq_true rfl) dX7_multiply_24 ⟨by decide, by decide⟩ ?_
  refine zf_i (x' := nI (rdV (eig (yv p) * eig (yv p2) / 8) (isB (yv p) != isB (yv p2)))) ((mv_product (hy p) (hy p2)).trans (if_pos hq)) ?_
  refine lv_istore (lv' := [(4, .int (nI (rdV (eig (yv p) * eig (yv p2) / 8) (isB (yv p) != isB (yv p2))))), (0, .ref x), (1, .int (nI p)), (2, .int (nI p2)), (3, .int (nI p3))]) hx hb dX7_multiply_27 hl (by decide) rfl (fun ls hl => ?_)
  refine lv_iload hx hb dX7_multiply_29 (lv_at hl 0 rfl) ?_
  refine lv_iconst (v := (-1)) hx hb dX7_multiply_31 (by decide) ?_
  refine lv_icmp_ne (tgt := 45) hx hb dX7_multiply_32 (by decide) (fun h1 => ?_) (fun h1 => ?_)
  · refine lv_aload_n hx hb dX7_multiply_45 rfl (lv_at hl 1 rfl) ?_
    refine va_get (D := D) (ci := 3) (v := .ref es) (C := RX7) (T := TX7) (N := 4) hx hb hts i_X7 hown hK hP 0 rfl rfl 1 (by decide) (hts _ u91) (fun _ h9 => h9) rfl dX7_multiply_46 ?_
    refine lv_iload_n hx hb dX7_multiply_49 rfl (lv_at hl 2 rfl) ?_
    refine za_lald hx hb hK hP 2 rfl p (rfl) (by omega) (by decide) dX7_multiply_50 ?_
    refine lv_lstore (lv' := [(5, .long (edge (yv p))), (4, .int (nI (rdV (eig (yv p) * eig (yv p2) / 8) (isB (yv p) != isB (yv p2))))), (0, .ref x), (1, .int (nI p)), (2, .int (nI p2)), (3, .int (nI p3))]) hx hb dX7_multiply_51 hl (by decide) rfl (fun ls hl => ?_)
    refine lv_aload_n hx hb dX7_multiply_53 rfl (lv_at hl 2 rfl) ?_
    refine va_get (D := D) (ci := 3) (v := .ref es) (C := RX7) (T := TX7) (N := 4) hx hb hts i_X7 hown hK hP 0 rfl rfl 1 (by decide) (hts _ u91) (fun _ h9 => h9) rfl dX7_multiply_54 ?_
    refine lv_iload_n hx hb dX7_multiply_57 rfl (lv_at hl 4 rfl) ?_
    refine za_lald hx hb hK hP 2 rfl p2 (rfl) (by omega) (by decide) dX7_multiply_58 ?_
    refine lv_lstore (lv' := [(7, .long (edge (yv p2))), (5, .long (edge (yv p))), (4, .int (nI (rdV (eig (yv p) * eig (yv p2) / 8) (isB (yv p) != isB (yv p2))))), (0, .ref x), (1, .int (nI p)), (2, .int (nI p2)), (3, .int (nI p3))]) hx hb dX7_multiply_59 hl (by decide) rfl (fun ls hl => ?_)
    refine lv_aload_n hx hb dX7_multiply_61 rfl (lv_at hl 3 rfl) ?_
    refine lv_iload_n hx hb dX7_multiply_62 rfl (lv_at hl 6 rfl) ?_
    refine lv_iload hx hb dX7_multiply_63 (lv_at hl 2 rfl) ?_
    refine zh_v (T := T) hx hb hml hown hts k_X7_52 (c_X7_write l D T x vs es o t yv p3 hp3 (rdV (eig (yv p) * eig (yv p2) / 8) (isB (yv p) != isB (yv p2))) (rdV_lt hr0 _)) ⟨by decide, by decide⟩ rfl hl.1 [] rfl (Nat.le_of_ble_eq_true rfl) dX7_multiply_65 ⟨Nat.le_of_ble_eq_true rfl, Nat.le_of_ble_eq_true rfl⟩ hK hP hD hS hA (ci := 3) rfl rfl rfl [0, 1, 2] [3, 4, 5, 6, 7, 8, 9] (wr := [(t, .inr (0, [.ref bl, .ref br, .ref bg])), (bl, .inr (2, [.ref fl])), (fl, .inl (T 1, 7, .inr (.inl (fun i => lN (lb NL i))))), (br, .inr (2, [.ref fr])), (fr, .inl (T 1, 7, .inr (.inl (fun i => lN (lb NR i))))), (bg, .inr (2, [.ref fg])), (fg, .inl (T 1, 7, .inr (.inl (fun i => lN (lb NG i)))))]) rfl rfl (by decide) (by decide) (by decide) [7, 8, 9, 0, 1, 2, 3, 4, 5, 6] (fun _ => [(x, .inr (3, [.ref vs, .ref es, .ref o, .ref t])), (vs, .inl (T 0, 8, .inl (fun k => nI ((up yv p3 (rdV (eig (yv p) * eig (yv p2) / 8) (isB (yv p) != isB (yv p2)))) k)))), (es, .inl (T 1, 8, .inr (.inl (fun k => edge ((up yv p3 (rdV (eig (yv p) * eig (yv p2) / 8) (isB (yv p) != isB (yv p2)))) k))))), (t, .inr (0, [.ref bl, .ref br, .ref bg])), (bl, .inr (2, [.ref fl])), (fl, .inl (T 1, 7, .inr (.inl (fun i => lN (lb NL i))))), (br, .inr (2, [.ref fr])), (fr, .inl (T 1, 7, .inr (.inl (fun i => lN (lb NR i))))), (bg, .inr (2, [.ref fg])), (fg, .inl (T 1, 7, .inr (.inl (fun i => lN (lb NG i)))))]) (by decide) (fun _ => rfl) (fun _ H locs hP hD hS => ?_)
    have hP : va_P D zcl [(x, .inr (3, [.ref vs, .ref es, .ref o, .ref t])), (vs, .inl (T 0, 8, .inl (fun k => nI ((up yv p3 (rdV (eig (yv p) * eig (yv p2) / 8) (isB (yv p) != isB (yv p2)))) k)))), (es, .inl (T 1, 8, .inr (.inl (fun k => edge ((up yv p3 (rdV (eig (yv p) * eig (yv p2) / 8) (isB (yv p) != isB (yv p2)))) k))))), (t, .inr (0, [.ref bl, .ref br, .ref bg])), (bl, .inr (2, [.ref fl])), (fl, .inl (T 1, 7, .inr (.inl (fun i => lN (lb NL i))))), (br, .inr (2, [.ref fr])), (fr, .inl (T 1, 7, .inr (.inl (fun i => lN (lb NR i))))), (bg, .inr (2, [.ref fg])), (fg, .inl (T 1, 7, .inr (.inl (fun i => lN (lb NG i)))))] H := hP
    have hD : va_D A [(x, .inr (3, [.ref vs, .ref es, .ref o, .ref t])), (vs, .inl (T 0, 8, .inl (fun k => nI ((up yv p3 (rdV (eig (yv p) * eig (yv p2) / 8) (isB (yv p) != isB (yv p2)))) k)))), (es, .inl (T 1, 8, .inr (.inl (fun k => edge ((up yv p3 (rdV (eig (yv p) * eig (yv p2) / 8) (isB (yv p) != isB (yv p2)))) k))))), (t, .inr (0, [.ref bl, .ref br, .ref bg])), (bl, .inr (2, [.ref fl])), (fl, .inl (T 1, 7, .inr (.inl (fun i => lN (lb NL i))))), (br, .inr (2, [.ref fr])), (fr, .inl (T 1, 7, .inr (.inl (fun i => lN (lb NR i))))), (bg, .inr (2, [.ref fg])), (fg, .inl (T 1, 7, .inr (.inl (fun i => lN (lb NG i)))))] := hD
    refine lv_aload_n hx hb dX7_multiply_68 rfl (lv_at hl 3 rfl) ?_
    refine va_get (D := D) (ci := 3) (v := .ref t) (C := RX7) (T := TX7) (N := 4) hx hb hts i_X7 hown hK hP 0 rfl rfl 3 (by decide) (hts _ u93) (fun _ h9 => h9) rfl dX7_multiply_69 ?_
    refine lv_lload hx hb dX7_multiply_72 (lv_at hl 1 rfl) ?_
    refine lv_lload hx hb dX7_multiply_74 (lv_at hl 0 rfl) ?_
    refine lv_aload_n hx hb dX7_multiply_76 rfl (lv_at hl 3 rfl) ?_
    refine va_get (D := D) (ci := 3) (v := .ref es) (C := RX7) (T := TX7) (N := 4) hx hb hts i_X7 hown hK hP 0 rfl rfl 1 (by decide) (hts _ u91) (fun _ h9 => h9) rfl dX7_multiply_77 ?_
    refine lv_iload_n hx hb dX7_multiply_80 rfl (lv_at hl 6 rfl) ?_
    refine za_lald hx hb hK hP 2 rfl p3 (rfl) (by omega) (by decide) dX7_multiply_81 ?_
    refine zf_l (x' := edge (rdV (eig (yv p) * eig (yv p2) / 8) (isB (yv p) != isB (yv p2)))) (by rw [up_s]) ?_
    refine zh_v (T := T) hx hb hml hown hts k_X7_138 (c_isNearProduct l D T t bl fl br fr bg fg NL NR NG (yv p) (yv p2) (hy p) (hy p2) hq) ⟨by decide, by decide⟩ rfl hl.1 [] rfl (Nat.le_of_ble_eq_true rfl) dX7_multiply_82 ⟨Nat.le_of_ble_eq_true rfl, Nat.le_of_ble_eq_true rfl⟩ hK hP hD hS hA (ci := 0) rfl rfl rfl [3, 4, 5, 6, 7, 8, 9] [0, 1, 2] (wr := [(x, .inr (3, [.ref vs, .ref es, .ref o, .ref t])), (vs, .inl (T 0, 8, .inl (fun k => nI ((up yv p3 (rdV (eig (yv p) * eig (yv p2) / 8) (isB (yv p) != isB (yv p2)))) k)))), (es, .inl (T 1, 8, .inr (.inl (fun k => edge ((up yv p3 (rdV (eig (yv p) * eig (yv p2) / 8) (isB (yv p) != isB (yv p2)))) k)))))]) rfl rfl (by decide) (by decide) (by decide) [0, 1, 2, 3, 4, 5, 6, 7, 8, 9] (fun x5 => [(x, .inr (3, [.ref vs, .ref es, .ref o, .ref t])), (vs, .inl (T 0, 8, .inl (fun k => nI ((up yv p3 (rdV (eig (yv p) * eig (yv p2) / 8) (isB (yv p) != isB (yv p2)))) k)))), (es, .inl (T 1, 8, .inr (.inl (fun k => edge ((up yv p3 (rdV (eig (yv p) * eig (yv p2) / 8) (isB (yv p) != isB (yv p2)))) k))))), (t, .inr (0, [.ref bl, .ref br, .ref bg])), (bl, .inr (2, [.ref fl])), (fl, .inl (T 1, 7, .inr (.inl (fun i => lN (lb x5.1 i))))), (br, .inr (2, [.ref fr])), (fr, .inl (T 1, 7, .inr (.inl (fun i => lN (lb x5.2.1 i))))), (bg, .inr (2, [.ref fg])), (fg, .inl (T 1, 7, .inr (.inl (fun i => lN (lb x5.2.2 i)))))]) (by decide) (fun _ => rfl) (fun x5 H locs hP hD hS => ?_)
    have hP : va_P D zcl [(x, .inr (3, [.ref vs, .ref es, .ref o, .ref t])), (vs, .inl (T 0, 8, .inl (fun k => nI ((up yv p3 (rdV (eig (yv p) * eig (yv p2) / 8) (isB (yv p) != isB (yv p2)))) k)))), (es, .inl (T 1, 8, .inr (.inl (fun k => edge ((up yv p3 (rdV (eig (yv p) * eig (yv p2) / 8) (isB (yv p) != isB (yv p2)))) k))))), (t, .inr (0, [.ref bl, .ref br, .ref bg])), (bl, .inr (2, [.ref fl])), (fl, .inl (T 1, 7, .inr (.inl (fun i => lN (lb x5.1 i))))), (br, .inr (2, [.ref fr])), (fr, .inl (T 1, 7, .inr (.inl (fun i => lN (lb x5.2.1 i))))), (bg, .inr (2, [.ref fg])), (fg, .inl (T 1, 7, .inr (.inl (fun i => lN (lb x5.2.2 i)))))] H := hP
    have hD : va_D A [(x, .inr (3, [.ref vs, .ref es, .ref o, .ref t])), (vs, .inl (T 0, 8, .inl (fun k => nI ((up yv p3 (rdV (eig (yv p) * eig (yv p2) / 8) (isB (yv p) != isB (yv p2)))) k)))), (es, .inl (T 1, 8, .inr (.inl (fun k => edge ((up yv p3 (rdV (eig (yv p) * eig (yv p2) / 8) (isB (yv p) != isB (yv p2)))) k))))), (t, .inr (0, [.ref bl, .ref br, .ref bg])), (bl, .inr (2, [.ref fl])), (fl, .inl (T 1, 7, .inr (.inl (fun i => lN (lb x5.1 i))))), (br, .inr (2, [.ref fr])), (fr, .inl (T 1, 7, .inr (.inl (fun i => lN (lb x5.2.1 i))))), (bg, .inr (2, [.ref fg])), (fg, .inl (T 1, 7, .inr (.inl (fun i => lN (lb x5.2.2 i)))))] := hD
    exact zh_zret (x5.1, x5.2.1, x5.2.2) hx hb hr hlocks dX7_multiply_85 hP hD hS (rfl) (rfl)
  · exact absurd h1 (nI_nm1 (Nat.lt_trans (rdV_lt hr0 _) (by decide)))
set_option maxRecDepth 20000 in
theorem t_X7_multiply_none (l : Launch) (hlf : l.stackTraces = false) (D : va_G) (T : Nat → ClassId) (x vs es o t : Nat) (yv : Nat → Nat) (p : Nat) (hp : p < 8) (p2 : Nat) (hp2 : p2 < 8) (p3 : Nat) (hp3 : p3 < 8) (hm : ¬ (eig (yv p) * eig (yv p2) % 8 = 0 ∧ rdC (eig (yv p) * eig (yv p2) / 8) ≤ 65535)) (hy : ∀ k, yv k < 262144) : Tm l yX7_multiply cX7_multiply 9 (some FieldType.boolean) 7 D T [.ref x, .int (nI p), .int (nI p2), .int (nI p3)] [(x, .inr (3, [.ref vs, .ref es, .ref o, .ref t])), (vs, .inl (T 0, 8, .inl (fun k => nI (yv k)))), (es, .inl (T 1, 8, .inr (.inl (fun k => edge (yv k)))))] "java/lang/ArithmeticException" := by
  refine Tm.of (by decide) (Nat.le_of_ble_eq_true rfl) ?_
  intro zp ze s zm args below zmeth zc hx hb hr hml hown hts hlocks hout A hA hP hK hD hS hZ ls hl
  have hl : lv_has ls 9 [(0, .ref x), (1, .int (nI p)), (2, .int (nI p2)), (3, .int (nI p3))] := hl
  refine lv_iload_n hx hb dX7_multiply_0 rfl (lv_at hl 1 rfl) ?_
  refine zp_callv hx hb hml hown hts k_X7_31 (c_needPlace l (nI p) (is_ok hp)) ⟨by decide, by decide⟩ rfl hl.1 [] rfl (Nat.le_of_ble_eq_true rfl) dX7_multiply_1 ⟨Nat.le_of_ble_eq_true rfl, Nat.le_of_ble_eq_true rfl⟩ ?_
  refine lv_iload_n hx hb dX7_multiply_4 rfl (lv_at hl 2 rfl) ?_
  refine zp_callv hx hb hml hown hts k_X7_31 (c_needPlace l (nI p2) (is_ok hp2)) ⟨by decide, by decide⟩ rfl hl.1 [] rfl (Nat.le_of_ble_eq_true rfl) dX7_multiply_5 ⟨Nat.le_of_ble_eq_true rfl, Nat.le_of_ble_eq_true rfl⟩ ?_
  refine lv_iload_n hx hb dX7_multiply_8 rfl (lv_at hl 3 rfl) ?_
  refine zp_callv hx hb hml hown hts k_X7_31 (c_needPlace l (nI p3) (is_ok hp3)) ⟨by decide, by decide⟩ rfl hl.1 [] rfl (Nat.le_of_ble_eq_true rfl) dX7_multiply_9 ⟨Nat.le_of_ble_eq_true rfl, Nat.le_of_ble_eq_true rfl⟩ ?_
  refine lv_aload_n hx hb dX7_multiply_12 rfl (lv_at hl 0 rfl) ?_
  refine va_get (D := D) (ci := 3) (v := .ref vs) (C := RX7) (T := TX7) (N := 4) hx hb hts i_X7 hown hK hP 0 rfl rfl 0 (by decide) (hts _ u90) (fun _ h9 => h9) rfl dX7_multiply_13 ?_
  refine lv_iload_n hx hb dX7_multiply_16 rfl (lv_at hl 1 rfl) ?_
  refine za_iald hx hb hK hP 1 rfl p (rfl) (by omega) (by decide) dX7_multiply_17 ?_
  refine lv_aload_n hx hb dX7_multiply_18 rfl (lv_at hl 0 rfl) ?_
  refine va_get (D := D) (ci := 3) (v := .ref vs) (C := RX7) (T := TX7) (N := 4) hx hb hts i_X7 hown hK hP 0 rfl rfl 0 (by decide) (hts _ u90) (fun _ h9 => h9) rfl dX7_multiply_19 ?_
  refine lv_iload_n hx hb dX7_multiply_22 rfl (lv_at hl 2 rfl) ?_
  refine za_iald hx hb hK hP 1 rfl p2 (rfl) (by omega) (by decide) dX7_multiply_23 ?_
  refine zp_call hx hb hml hown hts k_X7_133 (c_X5_productOf l (nI (yv p)) (nI (yv p2))) ⟨by decide, by decide⟩ rfl hl.1 [] rfl (Nat.le_of_ble_eq_true rfl) dX7_multiply_24 ⟨by decide, by decide⟩ ?_
  refine zf_i (x' := (-1)) ((mv_product (hy p) (hy p2)).trans (if_neg hm)) ?_
  refine lv_istore (lv' := [(4, .int (-1)), (0, .ref x), (1, .int (nI p)), (2, .int (nI p2)), (3, .int (nI p3))]) hx hb dX7_multiply_27 hl (by decide) rfl (fun ls hl => ?_)
  refine lv_iload hx hb dX7_multiply_29 (lv_at hl 0 rfl) ?_
  refine lv_iconst (v := (-1)) hx hb dX7_multiply_31 (by decide) ?_
  refine lv_icmp_ne (tgt := 45) hx hb dX7_multiply_32 (by decide) (fun h1 => ?_) (fun h1 => ?_)
  · exact absurd h1 (by decide)
  · exact zt_throw hx hb hlf hml hown hts hlocks hout (by decide +kernel) u525 u32 (List.mem_of_getElem? (i := 6) rfl) xg_81 xn_81 xo_81 hP hD hS hZ hl.1 (by decide) (Nat.le_of_ble_eq_true rfl) dX7_multiply_35 dX7_multiply_38 dX7_multiply_39 dX7_multiply_41 dX7_multiply_44
set_option maxRecDepth 20000 in
theorem c_X7_isSound_ok (l : Launch) (D : va_G) (T : Nat → ClassId) (x vs es o t bl fl br fr bg fg : Nat) (yv : Nat → Nat) (NL NR NG : Nat) (hy : ∀ k, yv k < 262144) : Hm l yX7_isSound cX7_isSound 3 (some FieldType.boolean) 6 0 0 D T [.ref x] [(x, .inr (3, [.ref vs, .ref es, .ref o, .ref t])), (vs, .inl (T 0, 8, .inl (fun k => nI (yv k)))), (es, .inl (T 1, 8, .inr (.inl (fun k => edge (yv k))))), (t, .inr (0, [.ref bl, .ref br, .ref bg])), (bl, .inr (2, [.ref fl])), (fl, .inl (T 1, 7, .inr (.inl (fun i => lN (lb NL i))))), (br, .inr (2, [.ref fr])), (fr, .inl (T 1, 7, .inr (.inl (fun i => lN (lb NR i))))), (bg, .inr (2, [.ref fg])), (fg, .inl (T 1, 7, .inr (.inl (fun i => lN (lb NG i)))))] (some (.int (bI true))) (fun g : Nat × Nat × Nat => [(x, .inr (3, [.ref vs, .ref es, .ref o, .ref t])), (vs, .inl (T 0, 8, .inl (fun k => nI (yv k)))), (es, .inl (T 1, 8, .inr (.inl (fun k => edge (yv k))))), (t, .inr (0, [.ref bl, .ref br, .ref bg])), (bl, .inr (2, [.ref fl])), (fl, .inl (T 1, 7, .inr (.inl (fun i => lN (lb g.1 i))))), (br, .inr (2, [.ref fr])), (fr, .inl (T 1, 7, .inr (.inl (fun i => lN (lb g.2.1 i))))), (bg, .inr (2, [.ref fg])), (fg, .inl (T 1, 7, .inr (.inl (fun i => lN (lb g.2.2 i)))))]) := by
  refine Hm.of (by decide) (Nat.le_of_ble_eq_true rfl) ?_
  intro zp ze s zm args below zmeth zc hx hb hr hml hown hin hts hlocks A hA hP hK hD hS ls hl
  have hl : lv_has ls 3 [(0, .ref x)] := hl
  refine lv_iconst (v := 0) hx hb dX7_isSound_0 (by decide) ?_
  refine zf_i (x' := nI 0) (rfl) ?_
  refine lv_istore_n (lv' := [(1, .int (nI 0)), (0, .ref x)]) hx hb dX7_isSound_1 rfl hl (by decide) rfl (fun ls hl => ?_)
  have lp : ∀ (n : Nat) (i NL NR NG : Nat), i + n = 8 → ∀ (H : Heap) (locs : List Loc), va_P D zcl [(x, .inr (3, [.ref vs, .ref es, .ref o, .ref t])), (vs, .inl (T 0, 8, .inl (fun k => nI (yv k)))), (es, .inl (T 1, 8, .inr (.inl (fun k => edge (yv k))))), (t, .inr (0, [.ref bl, .ref br, .ref bg])), (bl, .inr (2, [.ref fl])), (fl, .inl (T 1, 7, .inr (.inl (fun i => lN (lb NL i))))), (br, .inr (2, [.ref fr])), (fr, .inl (T 1, 7, .inr (.inl (fun i => lN (lb NR i))))), (bg, .inr (2, [.ref fg])), (fg, .inl (T 1, 7, .inr (.inl (fun i => lN (lb NG i)))))] H → va_D A [(x, .inr (3, [.ref vs, .ref es, .ref o, .ref t])), (vs, .inl (T 0, 8, .inl (fun k => nI (yv k)))), (es, .inl (T 1, 8, .inr (.inl (fun k => edge (yv k))))), (t, .inr (0, [.ref bl, .ref br, .ref bg])), (bl, .inr (2, [.ref fl])), (fl, .inl (T 1, 7, .inr (.inl (fun i => lN (lb NL i))))), (br, .inr (2, [.ref fr])), (fr, .inl (T 1, 7, .inr (.inl (fun i => lN (lb NR i))))), (bg, .inr (2, [.ref fg])), (fg, .inl (T 1, 7, .inr (.inl (fun i => lN (lb NG i)))))] → va_S A s.heap H locs → ∀ ls : Array Slot, lv_has ls 3 [(0, .ref x), (1, .int (nI i))] → W zp l ze (zR 6 0 0) s zm args below zmeth zc H locs 0 0 (MQ below (zQh D A (some (.int (bI true))) (fun g : Nat × Nat × Nat => [(x, .inr (3, [.ref vs, .ref es, .ref o, .ref t])), (vs, .inl (T 0, 8, .inl (fun k => nI (yv k)))), (es, .inl (T 1, 8, .inr (.inl (fun k => edge (yv k))))), (t, .inr (0, [.ref bl, .ref br, .ref bg])), (bl, .inr (2, [.ref fl])), (fl, .inl (T 1, 7, .inr (.inl (fun i => lN (lb g.1 i))))), (br, .inr (2, [.ref fr])), (fr, .inl (T 1, 7, .inr (.inl (fun i => lN (lb g.2.1 i))))), (bg, .inr (2, [.ref fg])), (fg, .inl (T 1, 7, .inr (.inl (fun i => lN (lb g.2.2 i)))))])) args s 0 0 A) (F0 zm 2 ls []) := by
    intro n
    induction n with
    | zero =>
      intro i NL NR NG hi H locs hP hD hS ls hl
      have hik : i = 8 := by omega
      refine lv_iload_n hx hb dX7_isSound_2 rfl (lv_at hl 1 rfl) ?_
      refine lv_bipush (v := 8) hx hb dX7_isSound_3 (by decide) ?_
      refine lv_icmp_ge (tgt := 87) hx hb dX7_isSound_5 (by decide) (fun h1 => ?_) (fun h1 => ?_)
      · refine lv_iconst (v := 1) hx hb dX7_isSound_87 (by decide) ?_
        exact zh_zret (NL, NR, NG) hx hb hr hlocks dX7_isSound_88 hP hD hS (rfl) (rfl)
      · exact absurd (show nI 8 ≤ nI i from nI_le (by omega) (by omega)) h1
    | succ n ih =>
      intro i NL NR NG hi H locs hP hD hS ls hl
      have hi8 : i < 8 := by omega
      refine lv_iload_n hx hb dX7_isSound_2 rfl (lv_at hl 1 rfl) ?_
      refine lv_bipush (v := 8) hx hb dX7_isSound_3 (by decide) ?_
      refine lv_icmp_ge (tgt := 87) hx hb dX7_isSound_5 (by decide) (fun h2 => ?_) (fun h2 => ?_)
      · exact absurd h2 (show ¬ nI 8 ≤ nI i from nI_ge (by omega) (by decide))
      · refine lv_aload_n hx hb dX7_isSound_8 rfl (lv_at hl 0 rfl) ?_
        refine va_get (D := D) (ci := 3) (v := .ref t) (C := RX7) (T := TX7) (N := 4) hx hb hts i_X7 hown hK hP 0 rfl rfl 3 (by decide) (hts _ u93) (fun _ h9 => h9) rfl dX7_isSound_9 ?_
        refine lv_aload_n hx hb dX7_isSound_12 rfl (lv_at hl 0 rfl) ?_
        refine va_get (D := D) (ci := 3) (v := .ref vs) (C := RX7) (T := TX7) (N := 4) hx hb hts i_X7 hown hK hP 0 rfl rfl 0 (by decide) (hts _ u90) (fun _ h9 => h9) rfl dX7_isSound_13 ?_
        refine lv_iload_n hx hb dX7_isSound_16 rfl (lv_at hl 1 rfl) ?_
        refine za_iald hx hb hK hP 1 rfl i (rfl) (by omega) (by decide) dX7_isSound_17 ?_
        refine lv_aload_n hx hb dX7_isSound_18 rfl (lv_at hl 0 rfl) ?_
        refine va_get (D := D) (ci := 3) (v := .ref es) (C := RX7) (T := TX7) (N := 4) hx hb hts i_X7 hown hK hP 0 rfl rfl 1 (by decide) (hts _ u91) (fun _ h9 => h9) rfl dX7_isSound_19 ?_
        refine lv_iload_n hx hb dX7_isSound_22 rfl (lv_at hl 1 rfl) ?_
        refine za_lald hx hb hK hP 2 rfl i (rfl) (by omega) (by decide) dX7_isSound_23 ?_
        refine zh_v (T := T) hx hb hml hown hts k_X7_215 (c_holdsOf l D T t bl fl br fr bg fg NL NR NG (yv i) (hy i)) ⟨by decide, by decide⟩ rfl hl.1 [] rfl (Nat.le_of_ble_eq_true rfl) dX7_isSound_24 ⟨Nat.le_of_ble_eq_true rfl, Nat.le_of_ble_eq_true rfl⟩ hK hP hD hS hA (ci := 0) rfl rfl rfl [3, 4, 5, 6, 7, 8, 9] [0, 1, 2] (wr := [(x, .inr (3, [.ref vs, .ref es, .ref o, .ref t])), (vs, .inl (T 0, 8, .inl (fun k => nI (yv k)))), (es, .inl (T 1, 8, .inr (.inl (fun k => edge (yv k)))))]) rfl rfl (by decide) (by decide) (by decide) [0, 1, 2, 3, 4, 5, 6, 7, 8, 9] (fun x6 => [(x, .inr (3, [.ref vs, .ref es, .ref o, .ref t])), (vs, .inl (T 0, 8, .inl (fun k => nI (yv k)))), (es, .inl (T 1, 8, .inr (.inl (fun k => edge (yv k))))), (t, .inr (0, [.ref bl, .ref br, .ref bg])), (bl, .inr (2, [.ref fl])), (fl, .inl (T 1, 7, .inr (.inl (fun i => lN (lb x6.1 i))))), (br, .inr (2, [.ref fr])), (fr, .inl (T 1, 7, .inr (.inl (fun i => lN (lb x6.2.1 i))))), (bg, .inr (2, [.ref fg])), (fg, .inl (T 1, 7, .inr (.inl (fun i => lN (lb x6.2.2 i)))))]) (by decide) (fun _ => rfl) (fun x6 H locs hP hD hS => ?_)
        have hP : va_P D zcl [(x, .inr (3, [.ref vs, .ref es, .ref o, .ref t])), (vs, .inl (T 0, 8, .inl (fun k => nI (yv k)))), (es, .inl (T 1, 8, .inr (.inl (fun k => edge (yv k))))), (t, .inr (0, [.ref bl, .ref br, .ref bg])), (bl, .inr (2, [.ref fl])), (fl, .inl (T 1, 7, .inr (.inl (fun i => lN (lb x6.1 i))))), (br, .inr (2, [.ref fr])), (fr, .inl (T 1, 7, .inr (.inl (fun i => lN (lb x6.2.1 i))))), (bg, .inr (2, [.ref fg])), (fg, .inl (T 1, 7, .inr (.inl (fun i => lN (lb x6.2.2 i)))))] H := hP
        have hD : va_D A [(x, .inr (3, [.ref vs, .ref es, .ref o, .ref t])), (vs, .inl (T 0, 8, .inl (fun k => nI (yv k)))), (es, .inl (T 1, 8, .inr (.inl (fun k => edge (yv k))))), (t, .inr (0, [.ref bl, .ref br, .ref bg])), (bl, .inr (2, [.ref fl])), (fl, .inl (T 1, 7, .inr (.inl (fun i => lN (lb x6.1 i))))), (br, .inr (2, [.ref fr])), (fr, .inl (T 1, 7, .inr (.inl (fun i => lN (lb x6.2.1 i))))), (bg, .inr (2, [.ref fg])), (fg, .inl (T 1, 7, .inr (.inl (fun i => lN (lb x6.2.2 i)))))] := hD
        refine zb_ne (tgt := 32) hx hb dX7_isSound_27 (by decide) (fun h3 => ?_) (fun h3 => ?_)
        · refine lv_iconst (v := 0) hx hb dX7_isSound_32 (by decide) ?_
          refine zf_i (x' := nI 0) (rfl) ?_
          refine lv_istore_n (lv' := [(2, .int (nI 0)), (0, .ref x), (1, .int (nI i))]) hx hb dX7_isSound_33 rfl hl (by decide) rfl (fun ls hl => ?_)
          have lq : ∀ (n : Nat) (j NL NR NG : Nat), j + n = i + 1 → ∀ (H : Heap) (locs : List Loc), va_P D zcl [(x, .inr (3, [.ref vs, .ref es, .ref o, .ref t])), (vs, .inl (T 0, 8, .inl (fun k => nI (yv k)))), (es, .inl (T 1, 8, .inr (.inl (fun k => edge (yv k))))), (t, .inr (0, [.ref bl, .ref br, .ref bg])), (bl, .inr (2, [.ref fl])), (fl, .inl (T 1, 7, .inr (.inl (fun i => lN (lb NL i))))), (br, .inr (2, [.ref fr])), (fr, .inl (T 1, 7, .inr (.inl (fun i => lN (lb NR i))))), (bg, .inr (2, [.ref fg])), (fg, .inl (T 1, 7, .inr (.inl (fun i => lN (lb NG i)))))] H → va_D A [(x, .inr (3, [.ref vs, .ref es, .ref o, .ref t])), (vs, .inl (T 0, 8, .inl (fun k => nI (yv k)))), (es, .inl (T 1, 8, .inr (.inl (fun k => edge (yv k))))), (t, .inr (0, [.ref bl, .ref br, .ref bg])), (bl, .inr (2, [.ref fl])), (fl, .inl (T 1, 7, .inr (.inl (fun i => lN (lb NL i))))), (br, .inr (2, [.ref fr])), (fr, .inl (T 1, 7, .inr (.inl (fun i => lN (lb NR i))))), (bg, .inr (2, [.ref fg])), (fg, .inl (T 1, 7, .inr (.inl (fun i => lN (lb NG i)))))] → va_S A s.heap H locs → ∀ ls : Array Slot, lv_has ls 3 [(0, .ref x), (1, .int (nI i)), (2, .int (nI j))] → W zp l ze (zR 6 0 0) s zm args below zmeth zc H locs 0 0 (MQ below (zQh D A (some (.int (bI true))) (fun g : Nat × Nat × Nat => [(x, .inr (3, [.ref vs, .ref es, .ref o, .ref t])), (vs, .inl (T 0, 8, .inl (fun k => nI (yv k)))), (es, .inl (T 1, 8, .inr (.inl (fun k => edge (yv k))))), (t, .inr (0, [.ref bl, .ref br, .ref bg])), (bl, .inr (2, [.ref fl])), (fl, .inl (T 1, 7, .inr (.inl (fun i => lN (lb g.1 i))))), (br, .inr (2, [.ref fr])), (fr, .inl (T 1, 7, .inr (.inl (fun i => lN (lb g.2.1 i))))), (bg, .inr (2, [.ref fg])), (fg, .inl (T 1, 7, .inr (.inl (fun i => lN (lb g.2.2 i)))))])) args s 0 0 A) (F0 zm 34 ls []) := by
            intro n
            induction n with
            | zero =>
              intro j NL NR NG hj H locs hP hD hS ls hl
              have hji : j = i + 1 := by omega
              refine lv_iload_n hx hb dX7_isSound_34 rfl (lv_at hl 2 rfl) ?_
              refine lv_iload_n hx hb dX7_isSound_35 rfl (lv_at hl 1 rfl) ?_
              refine lv_icmp_gt (tgt := 81) hx hb dX7_isSound_36 (by decide) (fun h4 => ?_) (fun h4 => ?_)
              · refine lv_iinc (v := (nI (i + 1))) (lv' := [(1, .int (nI (i + 1))), (0, .ref x), (2, .int (nI j))]) hx hb dX7_isSound_81 hl (k := 1) rfl (nI_1 i) (by decide) rfl (fun ls hl => ?_)
                refine lv_goto (tgt := 2) hx hb dX7_isSound_84 (by decide) ?_
                exact ih (i + 1) NL NR NG (by omega) _ _ hP hD hS ls (lv_sub hl [1, 0] rfl)
              · exact absurd (nI_lt (by omega) (by omega)) h4
            | succ n ih =>
              intro j NL NR NG hj H locs hP hD hS ls hl
              have hj8 : j < 8 := by omega
              refine lv_iload_n hx hb dX7_isSound_34 rfl (lv_at hl 2 rfl) ?_
              refine lv_iload_n hx hb dX7_isSound_35 rfl (lv_at hl 1 rfl) ?_
              refine lv_icmp_gt (tgt := 81) hx hb dX7_isSound_36 (by decide) (fun h5 => ?_) (fun h5 => ?_)
              · exact absurd h5 (nI_nlt (by omega) (by omega))
              · refine lv_aload_n hx hb dX7_isSound_39 rfl (lv_at hl 0 rfl) ?_
                refine va_get (D := D) (ci := 3) (v := .ref t) (C := RX7) (T := TX7) (N := 4) hx hb hts i_X7 hown hK hP 0 rfl rfl 3 (by decide) (hts _ u93) (fun _ h9 => h9) rfl dX7_isSound_40 ?_
                refine lv_aload_n hx hb dX7_isSound_43 rfl (lv_at hl 0 rfl) ?_
                refine va_get (D := D) (ci := 3) (v := .ref vs) (C := RX7) (T := TX7) (N := 4) hx hb hts i_X7 hown hK hP 0 rfl rfl 0 (by decide) (hts _ u90) (fun _ h9 => h9) rfl dX7_isSound_44 ?_
                refine lv_iload_n hx hb dX7_isSound_47 rfl (lv_at hl 1 rfl) ?_
                refine za_iald hx hb hK hP 1 rfl i (rfl) (by omega) (by decide) dX7_isSound_48 ?_
                refine lv_aload_n hx hb dX7_isSound_49 rfl (lv_at hl 0 rfl) ?_
                refine va_get (D := D) (ci := 3) (v := .ref es) (C := RX7) (T := TX7) (N := 4) hx hb hts i_X7 hown hK hP 0 rfl rfl 1 (by decide) (hts _ u91) (fun _ h9 => h9) rfl dX7_isSound_50 ?_
                refine lv_iload_n hx hb dX7_isSound_53 rfl (lv_at hl 1 rfl) ?_
                refine za_lald hx hb hK hP 2 rfl i (rfl) (by omega) (by decide) dX7_isSound_54 ?_
                refine lv_aload_n hx hb dX7_isSound_55 rfl (lv_at hl 0 rfl) ?_
                refine va_get (D := D) (ci := 3) (v := .ref vs) (C := RX7) (T := TX7) (N := 4) hx hb hts i_X7 hown hK hP 0 rfl rfl 0 (by decide) (hts _ u90) (fun _ h9 => h9) rfl dX7_isSound_56 ?_
                refine lv_iload_n hx hb dX7_isSound_59 rfl (lv_at hl 2 rfl) ?_
                refine za_iald hx hb hK hP 1 rfl j (rfl) (by omega) (by decide) dX7_isSound_60 ?_
                refine lv_aload_n hx hb dX7_isSound_61 rfl (lv_at hl 0 rfl) ?_
                refine va_get (D := D) (ci := 3) (v := .ref es) (C := RX7) (T := TX7) (N := 4) hx hb hts i_X7 hown hK hP 0 rfl rfl 1 (by decide) (hts _ u91) (fun _ h9 => h9) rfl dX7_isSound_62 ?_
                refine lv_iload_n hx hb dX7_isSound_65 rfl (lv_at hl 2 rfl) ?_
                refine za_lald hx hb hK hP 2 rfl j (rfl) (by omega) (by decide) dX7_isSound_66 ?_
                refine zh_v (T := T) hx hb hml hown hts k_X7_218 (c_holdsOfTwo l D T t bl fl br fr bg fg NL NR NG (yv i) (yv j) (hy i) (hy j)) ⟨by decide, by decide⟩ rfl hl.1 [] rfl (Nat.le_of_ble_eq_true rfl) dX7_isSound_67 ⟨Nat.le_of_ble_eq_true rfl, Nat.le_of_ble_eq_true rfl⟩ hK hP hD hS hA (ci := 0) rfl rfl rfl [3, 4, 5, 6, 7, 8, 9] [0, 1, 2] (wr := [(x, .inr (3, [.ref vs, .ref es, .ref o, .ref t])), (vs, .inl (T 0, 8, .inl (fun k => nI (yv k)))), (es, .inl (T 1, 8, .inr (.inl (fun k => edge (yv k)))))]) rfl rfl (by decide) (by decide) (by decide) [0, 1, 2, 3, 4, 5, 6, 7, 8, 9] (fun x7 => [(x, .inr (3, [.ref vs, .ref es, .ref o, .ref t])), (vs, .inl (T 0, 8, .inl (fun k => nI (yv k)))), (es, .inl (T 1, 8, .inr (.inl (fun k => edge (yv k))))), (t, .inr (0, [.ref bl, .ref br, .ref bg])), (bl, .inr (2, [.ref fl])), (fl, .inl (T 1, 7, .inr (.inl (fun i => lN (lb x7.1 i))))), (br, .inr (2, [.ref fr])), (fr, .inl (T 1, 7, .inr (.inl (fun i => lN (lb x7.2.1 i))))), (bg, .inr (2, [.ref fg])), (fg, .inl (T 1, 7, .inr (.inl (fun i => lN (lb x7.2.2 i)))))]) (by decide) (fun _ => rfl) (fun x7 H locs hP hD hS => ?_)
                have hP : va_P D zcl [(x, .inr (3, [.ref vs, .ref es, .ref o, .ref t])), (vs, .inl (T 0, 8, .inl (fun k => nI (yv k)))), (es, .inl (T 1, 8, .inr (.inl (fun k => edge (yv k))))), (t, .inr (0, [.ref bl, .ref br, .ref bg])), (bl, .inr (2, [.ref fl])), (fl, .inl (T 1, 7, .inr (.inl (fun i => lN (lb x7.1 i))))), (br, .inr (2, [.ref fr])), (fr, .inl (T 1, 7, .inr (.inl (fun i => lN (lb x7.2.1 i))))), (bg, .inr (2, [.ref fg])), (fg, .inl (T 1, 7, .inr (.inl (fun i => lN (lb x7.2.2 i)))))] H := hP
                have hD : va_D A [(x, .inr (3, [.ref vs, .ref es, .ref o, .ref t])), (vs, .inl (T 0, 8, .inl (fun k => nI (yv k)))), (es, .inl (T 1, 8, .inr (.inl (fun k => edge (yv k))))), (t, .inr (0, [.ref bl, .ref br, .ref bg])), (bl, .inr (2, [.ref fl])), (fl, .inl (T 1, 7, .inr (.inl (fun i => lN (lb x7.1 i))))), (br, .inr (2, [.ref fr])), (fr, .inl (T 1, 7, .inr (.inl (fun i => lN (lb x7.2.1 i))))), (bg, .inr (2, [.ref fg])), (fg, .inl (T 1, 7, .inr (.inl (fun i => lN (lb x7.2.2 i)))))] := hD
                refine zb_ne (tgt := 75) hx hb dX7_isSound_70 (by decide) (fun h6 => ?_) (fun h6 => ?_)
                · refine lv_iinc (v := (nI (j + 1))) (lv' := [(2, .int (nI (j + 1))), (0, .ref x), (1, .int (nI i))]) hx hb dX7_isSound_75 hl (k := 2) rfl (nI_1 j) (by decide) rfl (fun ls hl => ?_)
                  refine lv_goto (tgt := 34) hx hb dX7_isSound_78 (by decide) ?_
                  exact ih (j + 1) x7.1 x7.2.1 x7.2.2 (by omega) _ _ hP hD hS ls (lv_sub hl [1, 2, 0] rfl)
                · exact absurd h6 (by decide)
          exact lq (i + 1) 0 x6.1 x6.2.1 x6.2.2 (by omega) _ _ hP hD hS ls (lv_sub hl [1, 2, 0] rfl)
        · exact absurd h3 (by decide)
  exact lp 8 0 NL NR NG (by omega) _ _ hP hD hS ls (lv_sub hl [1, 0] rfl)
