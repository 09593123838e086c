/-! The law's own methods: each calls the class and tells what it threw. -/
theorem zc_more {p : Program} {l : Launch} {e : Env} {R : Room} {s : State} {m : MethodId} {args : Array Value} {below : List Frame} {meth : Method} {c : Code} {H : Heap} {locs : List Loc} {cells slots cells' slots' : Nat} {Q : State → Prop} {g : JFrame} (hc : cells ≤ cells') (hs : slots ≤ slots')
    (k : W p l e R s m args below meth c H locs cells' slots' Q g) : W p l e R s m args below meth c H locs cells slots Q g := fun T hT X => k T hT (X.mono hc hs)
def oS (V : Int64) (ou : Nat → Int64) : Nat → Int64 := fun k => if k = 0 then V else ou k
def oD (V : UInt64) (ou : Nat → UInt64) : Nat → UInt64 := fun k => if k = 0 then V else ou k
theorem cs_425 : Cond.castable "java/lang/IndexOutOfBoundsException" "java/lang/IndexOutOfBoundsException" ∈ zL := zL_mem 425 (by decide +kernel) rfl
theorem cs_439 : Cond.castable "java/lang/IllegalArgumentException" "java/lang/IllegalArgumentException" ∈ zL := zL_mem 439 (by decide +kernel) rfl
theorem cs_519 : Cond.castable "java/lang/ArithmeticException" "java/lang/ArithmeticException" ∈ zL := zL_mem 519 (by decide +kernel) rfl
theorem cs_658 : Cond.castable "java/lang/IllegalStateException" "java/lang/IllegalStateException" ∈ zL := zL_mem 658 (by decide +kernel) rfl
theorem cs_692 : Cond.castable "java/util/NoSuchElementException" "java/util/NoSuchElementException" ∈ zL := zL_mem 692 (by decide +kernel) rfl
set_option maxRecDepth 20000 in
theorem w_volume_ok (l : Launch) (hlf : l.stackTraces = false) (D : va_G) (T : Nat → ClassId) (x vs es o t : Nat) (yv : Nat → Nat) (ol : Nat) (ou : Nat → Int64) (p : Nat) (hp : p < 8) (hy : ∀ k, yv k < 262144) : Cm l yL_volume cL_volume 4 (some FieldType.int) [((0 : Nat), (9 : Nat), (12 : Nat), (13 : Nat))] 8 D T [.ref x, .int (nI p), .ref ol] [(x, .inr (3, [.ref vs, .ref es, .ref o, .ref t])), (vs, .inl (T 0, 8, .inl (fun k => nI (yv k)))), (es, .inl (T 1, 8, .inr (.inl (fun k => edge (yv k))))), (ol, .inl (T 1, 1, .inr (.inl (fun k => ou k))))] (some (.int 0)) (fun _ : Unit => [(x, .inr (3, [.ref vs, .ref es, .ref o, .ref t])), (vs, .inl (T 0, 8, .inl (fun k => nI (yv k)))), (es, .inl (T 1, 8, .inr (.inl (fun k => edge (yv k))))), (ol, .inl (T 1, 1, .inr (.inl (fun k => (oS (Int32.toInt64 (sgI (yv p))) ou) k))))]) := by
  refine Cm.of (by decide) (Nat.le_of_ble_eq_true rfl) ?_
  intro zp ze s zm args below zmeth zc hx hb hr hml hown hts hlocks htab A hA hP hK hD hS hZ hN ls hl
  have hl : lv_has ls 4 [(0, .ref x), (1, .int (nI p)), (2, .ref ol)] := hl
  refine lv_aload_n hx hb dL_volume_0 rfl (lv_at hl 2 rfl) ?_
  refine lv_iconst (v := 0) hx hb dL_volume_1 (by decide) ?_
  refine lv_aload_n hx hb dL_volume_2 rfl (lv_at hl 0 rfl) ?_
  refine lv_iload_n hx hb dL_volume_3 rfl (lv_at hl 1 rfl) ?_
  refine zh_v (T := T) hx hb hml hown hts k_L_17 (c_X7_volume_ok l D T x vs es o t yv p hp hy) ⟨by decide, by decide⟩ rfl hl.1 [.int 0, .ref ol] rfl (Nat.le_of_ble_eq_true rfl) dL_volume_4 ⟨Nat.le_of_ble_eq_true rfl, Nat.le_of_ble_eq_true rfl⟩ hK hP hD hS hA (ci := 3) rfl rfl rfl [0, 1, 2] [3] (wr := [(ol, .inl (T 1, 1, .inr (.inl (fun k => ou k))))]) rfl rfl (by decide) (by decide) (by decide) [1, 2, 3, 0] (fun _ => [(x, .inr (3, [.ref vs, .ref es, .ref o, .ref t])), (vs, .inl (T 0, 8, .inl (fun k => nI (yv k)))), (es, .inl (T 1, 8, .inr (.inl (fun k => edge (yv k))))), (ol, .inl (T 1, 1, .inr (.inl (fun k => ou k))))]) (by decide) (fun _ => rfl) (fun _ H locs hP hD hS => ?_)
  have hP : va_P D zcl [(x, .inr (3, [.ref vs, .ref es, .ref o, .ref t])), (vs, .inl (T 0, 8, .inl (fun k => nI (yv k)))), (es, .inl (T 1, 8, .inr (.inl (fun k => edge (yv k))))), (ol, .inl (T 1, 1, .inr (.inl (fun k => ou k))))] H := hP
  have hD : va_D A [(x, .inr (3, [.ref vs, .ref es, .ref o, .ref t])), (vs, .inl (T 0, 8, .inl (fun k => nI (yv k)))), (es, .inl (T 1, 8, .inr (.inl (fun k => edge (yv k))))), (ol, .inl (T 1, 1, .inr (.inl (fun k => ou k))))] := hD
  refine lv_i2l hx hb dL_volume_7 rfl ?_
  refine za_last hx hb hK hP hD hS 3 rfl 0 (rfl) (by decide) (by decide) (fun k => oS (Int32.toInt64 (sgI (yv p))) ou k) (fun _ => rfl) dL_volume_8 (fun H locs hP hD hS => ?_)
  have hP : va_P D zcl [(x, .inr (3, [.ref vs, .ref es, .ref o, .ref t])), (vs, .inl (T 0, 8, .inl (fun k => nI (yv k)))), (es, .inl (T 1, 8, .inr (.inl (fun k => edge (yv k))))), (ol, .inl (T 1, 1, .inr (.inl (fun k => oS (Int32.toInt64 (sgI (yv p))) ou k))))] H := hP
  have hD : va_D A [(x, .inr (3, [.ref vs, .ref es, .ref o, .ref t])), (vs, .inl (T 0, 8, .inl (fun k => nI (yv k)))), (es, .inl (T 1, 8, .inr (.inl (fun k => edge (yv k))))), (ol, .inl (T 1, 1, .inr (.inl (fun k => oS (Int32.toInt64 (sgI (yv p))) ou k))))] := hD
  refine lv_goto (tgt := 15) hx hb dL_volume_9 (by decide) ?_
  refine lv_iconst (v := 0) hx hb dL_volume_15 (by decide) ?_
  refine zc_more (cells' := 1) (slots' := 6) (Nat.le_of_ble_eq_true rfl) (Nat.le_of_ble_eq_true rfl) ?_
  exact zh_iret () hx hb hr hlocks dL_volume_16 hP hD hS (rfl) (rfl)
set_option maxRecDepth 20000 in
theorem w_fine_ok (l : Launch) (hlf : l.stackTraces = false) (D : va_G) (T : Nat → ClassId) (x vs es o t : Nat) (yv : Nat → Nat) (ol : Nat) (ou : Nat → Int64) (p : Nat) (hp : p < 8) (hy : ∀ k, yv k < 262144) : Cm l yL_fine cL_fine 4 (some FieldType.int) [((0 : Nat), (9 : Nat), (12 : Nat), (13 : Nat))] 8 D T [.ref x, .int (nI p), .ref ol] [(x, .inr (3, [.ref vs, .ref es, .ref o, .ref t])), (vs, .inl (T 0, 8, .inl (fun k => nI (yv k)))), (es, .inl (T 1, 8, .inr (.inl (fun k => edge (yv k))))), (ol, .inl (T 1, 1, .inr (.inl (fun k => ou k))))] (some (.int 0)) (fun _ : Unit => [(x, .inr (3, [.ref vs, .ref es, .ref o, .ref t])), (vs, .inl (T 0, 8, .inl (fun k => nI (yv k)))), (es, .inl (T 1, 8, .inr (.inl (fun k => edge (yv k))))), (ol, .inl (T 1, 1, .inr (.inl (fun k => (oS (Int32.toInt64 (fI (yv p))) ou) k))))]) := by
  refine Cm.of (by decide) (Nat.le_of_ble_eq_true rfl) ?_
  intro zp ze s zm args below zmeth zc hx hb hr hml hown hts hlocks htab A hA hP hK hD hS hZ hN ls hl
  have hl : lv_has ls 4 [(0, .ref x), (1, .int (nI p)), (2, .ref ol)] := hl
  refine lv_aload_n hx hb dL_fine_0 rfl (lv_at hl 2 rfl) ?_
  refine lv_iconst (v := 0) hx hb dL_fine_1 (by decide) ?_
  refine lv_aload_n hx hb dL_fine_2 rfl (lv_at hl 0 rfl) ?_
  refine lv_iload_n hx hb dL_fine_3 rfl (lv_at hl 1 rfl) ?_
  refine zh_v (T := T) hx hb hml hown hts k_L_24 (c_X7_fine_ok l D T x vs es o t yv p hp hy) ⟨by decide, by decide⟩ rfl hl.1 [.int 0, .ref ol] rfl (Nat.le_of_ble_eq_true rfl) dL_fine_4 ⟨Nat.le_of_ble_eq_true rfl, Nat.le_of_ble_eq_true rfl⟩ hK hP hD hS hA (ci := 3) rfl rfl rfl [0, 1, 2] [3] (wr := [(ol, .inl (T 1, 1, .inr (.inl (fun k => ou k))))]) rfl rfl (by decide) (by decide) (by decide) [1, 2, 3, 0] (fun _ => [(x, .inr (3, [.ref vs, .ref es, .ref o, .ref t])), (vs, .inl (T 0, 8, .inl (fun k => nI (yv k)))), (es, .inl (T 1, 8, .inr (.inl (fun k => edge (yv k))))), (ol, .inl (T 1, 1, .inr (.inl (fun k => ou k))))]) (by decide) (fun _ => rfl) (fun _ H locs hP hD hS => ?_)
  have hP : va_P D zcl [(x, .inr (3, [.ref vs, .ref es, .ref o, .ref t])), (vs, .inl (T 0, 8, .inl (fun k => nI (yv k)))), (es, .inl (T 1, 8, .inr (.inl (fun k => edge (yv k))))), (ol, .inl (T 1, 1, .inr (.inl (fun k => ou k))))] H := hP
  have hD : va_D A [(x, .inr (3, [.ref vs, .ref es, .ref o, .ref t])), (vs, .inl (T 0, 8, .inl (fun k => nI (yv k)))), (es, .inl (T 1, 8, .inr (.inl (fun k => edge (yv k))))), (ol, .inl (T 1, 1, .inr (.inl (fun k => ou k))))] := hD
  refine lv_i2l hx hb dL_fine_7 rfl ?_
  refine za_last hx hb hK hP hD hS 3 rfl 0 (rfl) (by decide) (by decide) (fun k => oS (Int32.toInt64 (fI (yv p))) ou k) (fun _ => rfl) dL_fine_8 (fun H locs hP hD hS => ?_)
  have hP : va_P D zcl [(x, .inr (3, [.ref vs, .ref es, .ref o, .ref t])), (vs, .inl (T 0, 8, .inl (fun k => nI (yv k)))), (es, .inl (T 1, 8, .inr (.inl (fun k => edge (yv k))))), (ol, .inl (T 1, 1, .inr (.inl (fun k => oS (Int32.toInt64 (fI (yv p))) ou k))))] H := hP
  have hD : va_D A [(x, .inr (3, [.ref vs, .ref es, .ref o, .ref t])), (vs, .inl (T 0, 8, .inl (fun k => nI (yv k)))), (es, .inl (T 1, 8, .inr (.inl (fun k => edge (yv k))))), (ol, .inl (T 1, 1, .inr (.inl (fun k => oS (Int32.toInt64 (fI (yv p))) ou k))))] := hD
  refine lv_goto (tgt := 15) hx hb dL_fine_9 (by decide) ?_
  refine lv_iconst (v := 0) hx hb dL_fine_15 (by decide) ?_
  refine zc_more (cells' := 1) (slots' := 6) (Nat.le_of_ble_eq_true rfl) (Nat.le_of_ble_eq_true rfl) ?_
  exact zh_iret () hx hb hr hlocks dL_fine_16 hP hD hS (rfl) (rfl)
set_option maxRecDepth 20000 in
theorem w_whole_ok (l : Launch) (hlf : l.stackTraces = false) (D : va_G) (T : Nat → ClassId) (x vs es o t : Nat) (yv : Nat → Nat) (ol : Nat) (ou : Nat → Int64) (p : Nat) (hp : p < 8) (hy : ∀ k, yv k < 262144) : Cm l yL_whole cL_whole 4 (some FieldType.int) [((0 : Nat), (9 : Nat), (12 : Nat), (13 : Nat))] 8 D T [.ref x, .int (nI p), .ref ol] [(x, .inr (3, [.ref vs, .ref es, .ref o, .ref t])), (vs, .inl (T 0, 8, .inl (fun k => nI (yv k)))), (es, .inl (T 1, 8, .inr (.inl (fun k => edge (yv k))))), (ol, .inl (T 1, 1, .inr (.inl (fun k => ou k))))] (some (.int 0)) (fun _ : Unit => [(x, .inr (3, [.ref vs, .ref es, .ref o, .ref t])), (vs, .inl (T 0, 8, .inl (fun k => nI (yv k)))), (es, .inl (T 1, 8, .inr (.inl (fun k => edge (yv k))))), (ol, .inl (T 1, 1, .inr (.inl (fun k => (oS (Int32.toInt64 (fI (yv p) / 1024)) ou) k))))]) := by
  refine Cm.of (by decide) (Nat.le_of_ble_eq_true rfl) ?_
  intro zp ze s zm args below zmeth zc hx hb hr hml hown hts hlocks htab A hA hP hK hD hS hZ hN ls hl
  have hl : lv_has ls 4 [(0, .ref x), (1, .int (nI p)), (2, .ref ol)] := hl
  refine lv_aload_n hx hb dL_whole_0 rfl (lv_at hl 2 rfl) ?_
  refine lv_iconst (v := 0) hx hb dL_whole_1 (by decide) ?_
  refine lv_aload_n hx hb dL_whole_2 rfl (lv_at hl 0 rfl) ?_
  refine lv_iload_n hx hb dL_whole_3 rfl (lv_at hl 1 rfl) ?_
  refine zh_v (T := T) hx hb hml hown hts k_L_27 (c_X7_whole_ok l D T x vs es o t yv p hp hy) ⟨by decide, by decide⟩ rfl hl.1 [.int 0, .ref ol] rfl (Nat.le_of_ble_eq_true rfl) dL_whole_4 ⟨Nat.le_of_ble_eq_true rfl, Nat.le_of_ble_eq_true rfl⟩ hK hP hD hS hA (ci := 3) rfl rfl rfl [0, 1, 2] [3] (wr := [(ol, .inl (T 1, 1, .inr (.inl (fun k => ou k))))]) rfl rfl (by decide) (by decide) (by decide) [1, 2, 3, 0] (fun _ => [(x, .inr (3, [.ref vs, .ref es, .ref o, .ref t])), (vs, .inl (T 0, 8, .inl (fun k => nI (yv k)))), (es, .inl (T 1, 8, .inr (.inl (fun k => edge (yv k))))), (ol, .inl (T 1, 1, .inr (.inl (fun k => ou k))))]) (by decide) (fun _ => rfl) (fun _ H locs hP hD hS => ?_)
  have hP : va_P D zcl [(x, .inr (3, [.ref vs, .ref es, .ref o, .ref t])), (vs, .inl (T 0, 8, .inl (fun k => nI (yv k)))), (es, .inl (T 1, 8, .inr (.inl (fun k => edge (yv k))))), (ol, .inl (T 1, 1, .inr (.inl (fun k => ou k))))] H := hP
  have hD : va_D A [(x, .inr (3, [.ref vs, .ref es, .ref o, .ref t])), (vs, .inl (T 0, 8, .inl (fun k => nI (yv k)))), (es, .inl (T 1, 8, .inr (.inl (fun k => edge (yv k))))), (ol, .inl (T 1, 1, .inr (.inl (fun k => ou k))))] := hD
  refine lv_i2l hx hb dL_whole_7 rfl ?_
  refine za_last hx hb hK hP hD hS 3 rfl 0 (rfl) (by decide) (by decide) (fun k => oS (Int32.toInt64 (fI (yv p) / 1024)) ou k) (fun _ => rfl) dL_whole_8 (fun H locs hP hD hS => ?_)
  have hP : va_P D zcl [(x, .inr (3, [.ref vs, .ref es, .ref o, .ref t])), (vs, .inl (T 0, 8, .inl (fun k => nI (yv k)))), (es, .inl (T 1, 8, .inr (.inl (fun k => edge (yv k))))), (ol, .inl (T 1, 1, .inr (.inl (fun k => oS (Int32.toInt64 (fI (yv p) / 1024)) ou k))))] H := hP
  have hD : va_D A [(x, .inr (3, [.ref vs, .ref es, .ref o, .ref t])), (vs, .inl (T 0, 8, .inl (fun k => nI (yv k)))), (es, .inl (T 1, 8, .inr (.inl (fun k => edge (yv k))))), (ol, .inl (T 1, 1, .inr (.inl (fun k => oS (Int32.toInt64 (fI (yv p) / 1024)) ou k))))] := hD
  refine lv_goto (tgt := 15) hx hb dL_whole_9 (by decide) ?_
  refine lv_iconst (v := 0) hx hb dL_whole_15 (by decide) ?_
  refine zc_more (cells' := 1) (slots' := 6) (Nat.le_of_ble_eq_true rfl) (Nat.le_of_ble_eq_true rfl) ?_
  exact zh_iret () hx hb hr hlocks dL_whole_16 hP hD hS (rfl) (rfl)
set_option maxRecDepth 20000 in
theorem w_volume_no (l : Launch) (hlf : l.stackTraces = false) (D : va_G) (T : Nat → ClassId) (x vs es o t : Nat) (yv : Nat → Nat) (ol : Nat) (ou : Nat → Int64) (x0 : Int32) (hx0 : m_X8_is x0 = false) : Cm l yL_volume cL_volume 4 (some FieldType.int) [((0 : Nat), (9 : Nat), (12 : Nat), (13 : Nat))] 8 D T [.ref x, .int x0, .ref ol] [(x, .inr (3, [.ref vs, .ref es, .ref o, .ref t])), (vs, .inl (T 0, 8, .inl (fun k => nI (yv k)))), (es, .inl (T 1, 8, .inr (.inl (fun k => edge (yv k))))), (ol, .inl (T 1, 1, .inr (.inl (fun k => ou k))))] (some (.int 1)) (fun _ : Unit => [(x, .inr (3, [.ref vs, .ref es, .ref o, .ref t])), (vs, .inl (T 0, 8, .inl (fun k => nI (yv k)))), (es, .inl (T 1, 8, .inr (.inl (fun k => edge (yv k))))), (ol, .inl (T 1, 1, .inr (.inl (fun k => ou k))))]) := by
  refine Cm.of (by decide) (Nat.le_of_ble_eq_true rfl) ?_
  intro zp ze s zm args below zmeth zc hx hb hr hml hown hts hlocks htab A hA hP hK hD hS hZ hN ls hl
  have hl : lv_has ls 4 [(0, .ref x), (1, .int x0), (2, .ref ol)] := hl
  refine lv_aload_n hx hb dL_volume_0 rfl (lv_at hl 2 rfl) ?_
  refine lv_iconst (v := 0) hx hb dL_volume_1 (by decide) ?_
  refine lv_aload_n hx hb dL_volume_2 rfl (lv_at hl 0 rfl) ?_
  refine lv_iload_n hx hb dL_volume_3 rfl (lv_at hl 1 rfl) ?_
  refine zt_v (T := T) hx hb hml hown hts k_L_17 (t_X7_volume_no l hlf D T x vs es o t yv x0 hx0) ⟨by decide, by decide⟩ rfl hl.1 [.int 0, .ref ol] rfl (Nat.le_of_ble_eq_true rfl) dL_volume_4 ⟨Nat.le_of_ble_eq_true rfl, Nat.le_of_ble_eq_true rfl⟩ hK hP hD hS hA hZ (ci := 3) rfl rfl rfl [0, 1, 2] [3] (wr := [(ol, .inl (T 1, 1, .inr (.inl (fun k => ou k))))]) rfl rfl (by decide) (by decide) (by decide) [1, 2, 3, 0] (by decide) rfl (fun ce q9 H locs hP hD hS hce hcv hcl => ?_)
  refine zc_catch (hh := [((0 : Nat), (9 : Nat), (12 : Nat), (13 : Nat))]) (E := "java/lang/IndexOutOfBoundsException") hown hts htab hZ hN hce hcv hcl [] (⟨0, 9, 12, 13⟩ : ExceptionTableEntry) [] rfl (fun z hz => nomatch hz) (by decide) (by decide) u336 cs_425 ?_
  have hP : va_P D zcl [(x, .inr (3, [.ref vs, .ref es, .ref o, .ref t])), (vs, .inl (T 0, 8, .inl (fun k => nI (yv k)))), (es, .inl (T 1, 8, .inr (.inl (fun k => edge (yv k))))), (ol, .inl (T 1, 1, .inr (.inl (fun k => ou k))))] H := hP
  have hD : va_D A [(x, .inr (3, [.ref vs, .ref es, .ref o, .ref t])), (vs, .inl (T 0, 8, .inl (fun k => nI (yv k)))), (es, .inl (T 1, 8, .inr (.inl (fun k => edge (yv k))))), (ol, .inl (T 1, 1, .inr (.inl (fun k => ou k))))] := hD
  refine lv_astore_n (lv' := [(3, .ref q9), (0, .ref x), (1, .int x0), (2, .ref ol)]) hx hb dL_volume_12 rfl hl (by decide) rfl (fun ls hl => ?_)
  refine lv_iconst (v := 1) hx hb dL_volume_13 (by decide) ?_
  refine zc_more (cells' := 1) (slots' := 6) (Nat.le_of_ble_eq_true rfl) (Nat.le_of_ble_eq_true rfl) ?_
  exact zh_iret () hx hb hr hlocks dL_volume_14 hP hD hS (rfl) (rfl)
set_option maxRecDepth 20000 in
theorem w_kind_no (l : Launch) (hlf : l.stackTraces = false) (D : va_G) (T : Nat → ClassId) (x vs es o t : Nat) (yv : Nat → Nat) (ol : Nat) (ou : Nat → Int64) (x0 : Int32) (hx0 : m_X8_is x0 = false) : Cm l yL_kind cL_kind 4 (some FieldType.int) [((0 : Nat), (9 : Nat), (12 : Nat), (13 : Nat))] 8 D T [.ref x, .int x0, .ref ol] [(x, .inr (3, [.ref vs, .ref es, .ref o, .ref t])), (vs, .inl (T 0, 8, .inl (fun k => nI (yv k)))), (es, .inl (T 1, 8, .inr (.inl (fun k => edge (yv k))))), (ol, .inl (T 1, 1, .inr (.inl (fun k => ou k))))] (some (.int 1)) (fun _ : Unit => [(x, .inr (3, [.ref vs, .ref es, .ref o, .ref t])), (vs, .inl (T 0, 8, .inl (fun k => nI (yv k)))), (es, .inl (T 1, 8, .inr (.inl (fun k => edge (yv k))))), (ol, .inl (T 1, 1, .inr (.inl (fun k => ou k))))]) := by
  refine Cm.of (by decide) (Nat.le_of_ble_eq_true rfl) ?_
  intro zp ze s zm args below zmeth zc hx hb hr hml hown hts hlocks htab A hA hP hK hD hS hZ hN ls hl
  have hl : lv_has ls 4 [(0, .ref x), (1, .int x0), (2, .ref ol)] := hl
  refine lv_aload_n hx hb dL_kind_0 rfl (lv_at hl 2 rfl) ?_
  refine lv_iconst (v := 0) hx hb dL_kind_1 (by decide) ?_
  refine lv_aload_n hx hb dL_kind_2 rfl (lv_at hl 0 rfl) ?_
  refine lv_iload_n hx hb dL_kind_3 rfl (lv_at hl 1 rfl) ?_
  refine zt_v (T := T) hx hb hml hown hts k_L_21 (t_X7_kind_no l hlf D T x vs es o t yv x0 hx0) ⟨by decide, by decide⟩ rfl hl.1 [.int 0, .ref ol] rfl (Nat.le_of_ble_eq_true rfl) dL_kind_4 ⟨Nat.le_of_ble_eq_true rfl, Nat.le_of_ble_eq_true rfl⟩ hK hP hD hS hA hZ (ci := 3) rfl rfl rfl [0, 1, 2] [3] (wr := [(ol, .inl (T 1, 1, .inr (.inl (fun k => ou k))))]) rfl rfl (by decide) (by decide) (by decide) [1, 2, 3, 0] (by decide) rfl (fun ce q9 H locs hP hD hS hce hcv hcl => ?_)
  refine zc_catch (hh := [((0 : Nat), (9 : Nat), (12 : Nat), (13 : Nat))]) (E := "java/lang/IndexOutOfBoundsException") hown hts htab hZ hN hce hcv hcl [] (⟨0, 9, 12, 13⟩ : ExceptionTableEntry) [] rfl (fun z hz => nomatch hz) (by decide) (by decide) u336 cs_425 ?_
  have hP : va_P D zcl [(x, .inr (3, [.ref vs, .ref es, .ref o, .ref t])), (vs, .inl (T 0, 8, .inl (fun k => nI (yv k)))), (es, .inl (T 1, 8, .inr (.inl (fun k => edge (yv k))))), (ol, .inl (T 1, 1, .inr (.inl (fun k => ou k))))] H := hP
  have hD : va_D A [(x, .inr (3, [.ref vs, .ref es, .ref o, .ref t])), (vs, .inl (T 0, 8, .inl (fun k => nI (yv k)))), (es, .inl (T 1, 8, .inr (.inl (fun k => edge (yv k))))), (ol, .inl (T 1, 1, .inr (.inl (fun k => ou k))))] := hD
  refine lv_astore_n (lv' := [(3, .ref q9), (0, .ref x), (1, .int x0), (2, .ref ol)]) hx hb dL_kind_12 rfl hl (by decide) rfl (fun ls hl => ?_)
  refine lv_iconst (v := 1) hx hb dL_kind_13 (by decide) ?_
  refine zc_more (cells' := 1) (slots' := 6) (Nat.le_of_ble_eq_true rfl) (Nat.le_of_ble_eq_true rfl) ?_
  exact zh_iret () hx hb hr hlocks dL_kind_14 hP hD hS (rfl) (rfl)
set_option maxRecDepth 20000 in
theorem w_fine_no (l : Launch) (hlf : l.stackTraces = false) (D : va_G) (T : Nat → ClassId) (x vs es o t : Nat) (yv : Nat → Nat) (ol : Nat) (ou : Nat → Int64) (x0 : Int32) (hx0 : m_X8_is x0 = false) : Cm l yL_fine cL_fine 4 (some FieldType.int) [((0 : Nat), (9 : Nat), (12 : Nat), (13 : Nat))] 8 D T [.ref x, .int x0, .ref ol] [(x, .inr (3, [.ref vs, .ref es, .ref o, .ref t])), (vs, .inl (T 0, 8, .inl (fun k => nI (yv k)))), (es, .inl (T 1, 8, .inr (.inl (fun k => edge (yv k))))), (ol, .inl (T 1, 1, .inr (.inl (fun k => ou k))))] (some (.int 1)) (fun _ : Unit => [(x, .inr (3, [.ref vs, .ref es, .ref o, .ref t])), (vs, .inl (T 0, 8, .inl (fun k => nI (yv k)))), (es, .inl (T 1, 8, .inr (.inl (fun k => edge (yv k))))), (ol, .inl (T 1, 1, .inr (.inl (fun k => ou k))))]) := by
  refine Cm.of (by decide) (Nat.le_of_ble_eq_true rfl) ?_
  intro zp ze s zm args below zmeth zc hx hb hr hml hown hts hlocks htab A hA hP hK hD hS hZ hN ls hl
  have hl : lv_has ls 4 [(0, .ref x), (1, .int x0), (2, .ref ol)] := hl
  refine lv_aload_n hx hb dL_fine_0 rfl (lv_at hl 2 rfl) ?_
  refine lv_iconst (v := 0) hx hb dL_fine_1 (by decide) ?_
  refine lv_aload_n hx hb dL_fine_2 rfl (lv_at hl 0 rfl) ?_
  refine lv_iload_n hx hb dL_fine_3 rfl (lv_at hl 1 rfl) ?_
  refine zt_v (T := T) hx hb hml hown hts k_L_24 (t_X7_fine_no l hlf D T x vs es o t yv x0 hx0) ⟨by decide, by decide⟩ rfl hl.1 [.int 0, .ref ol] rfl (Nat.le_of_ble_eq_true rfl) dL_fine_4 ⟨Nat.le_of_ble_eq_true rfl, Nat.le_of_ble_eq_true rfl⟩ hK hP hD hS hA hZ (ci := 3) rfl rfl rfl [0, 1, 2] [3] (wr := [(ol, .inl (T 1, 1, .inr (.inl (fun k => ou k))))]) rfl rfl (by decide) (by decide) (by decide) [1, 2, 3, 0] (by decide) rfl (fun ce q9 H locs hP hD hS hce hcv hcl => ?_)
  refine zc_catch (hh := [((0 : Nat), (9 : Nat), (12 : Nat), (13 : Nat))]) (E := "java/lang/IndexOutOfBoundsException") hown hts htab hZ hN hce hcv hcl [] (⟨0, 9, 12, 13⟩ : ExceptionTableEntry) [] rfl (fun z hz => nomatch hz) (by decide) (by decide) u336 cs_425 ?_
  have hP : va_P D zcl [(x, .inr (3, [.ref vs, .ref es, .ref o, .ref t])), (vs, .inl (T 0, 8, .inl (fun k => nI (yv k)))), (es, .inl (T 1, 8, .inr (.inl (fun k => edge (yv k))))), (ol, .inl (T 1, 1, .inr (.inl (fun k => ou k))))] H := hP
  have hD : va_D A [(x, .inr (3, [.ref vs, .ref es, .ref o, .ref t])), (vs, .inl (T 0, 8, .inl (fun k => nI (yv k)))), (es, .inl (T 1, 8, .inr (.inl (fun k => edge (yv k))))), (ol, .inl (T 1, 1, .inr (.inl (fun k => ou k))))] := hD
  refine lv_astore_n (lv' := [(3, .ref q9), (0, .ref x), (1, .int x0), (2, .ref ol)]) hx hb dL_fine_12 rfl hl (by decide) rfl (fun ls hl => ?_)
  refine lv_iconst (v := 1) hx hb dL_fine_13 (by decide) ?_
  refine zc_more (cells' := 1) (slots' := 6) (Nat.le_of_ble_eq_true rfl) (Nat.le_of_ble_eq_true rfl) ?_
  exact zh_iret () hx hb hr hlocks dL_fine_14 hP hD hS (rfl) (rfl)
set_option maxRecDepth 20000 in
theorem w_whole_no (l : Launch) (hlf : l.stackTraces = false) (D : va_G) (T : Nat → ClassId) (x vs es o t : Nat) (yv : Nat → Nat) (ol : Nat) (ou : Nat → Int64) (x0 : Int32) (hx0 : m_X8_is x0 = false) : Cm l yL_whole cL_whole 4 (some FieldType.int) [((0 : Nat), (9 : Nat), (12 : Nat), (13 : Nat))] 8 D T [.ref x, .int x0, .ref ol] [(x, .inr (3, [.ref vs, .ref es, .ref o, .ref t])), (vs, .inl (T 0, 8, .inl (fun k => nI (yv k)))), (es, .inl (T 1, 8, .inr (.inl (fun k => edge (yv k))))), (ol, .inl (T 1, 1, .inr (.inl (fun k => ou k))))] (some (.int 1)) (fun _ : Unit => [(x, .inr (3, [.ref vs, .ref es, .ref o, .ref t])), (vs, .inl (T 0, 8, .inl (fun k => nI (yv k)))), (es, .inl (T 1, 8, .inr (.inl (fun k => edge (yv k))))), (ol, .inl (T 1, 1, .inr (.inl (fun k => ou k))))]) := by
  refine Cm.of (by decide) (Nat.le_of_ble_eq_true rfl) ?_
  intro zp ze s zm args below zmeth zc hx hb hr hml hown hts hlocks htab A hA hP hK hD hS hZ hN ls hl
  have hl : lv_has ls 4 [(0, .ref x), (1, .int x0), (2, .ref ol)] := hl
  refine lv_aload_n hx hb dL_whole_0 rfl (lv_at hl 2 rfl) ?_
  refine lv_iconst (v := 0) hx hb dL_whole_1 (by decide) ?_
  refine lv_aload_n hx hb dL_whole_2 rfl (lv_at hl 0 rfl) ?_
  refine lv_iload_n hx hb dL_whole_3 rfl (lv_at hl 1 rfl) ?_
  refine zt_v (T := T) hx hb hml hown hts k_L_27 (t_X7_whole_no l hlf D T x vs es o t yv x0 hx0) ⟨by decide, by decide⟩ rfl hl.1 [.int 0, .ref ol] rfl (Nat.le_of_ble_eq_true rfl) dL_whole_4 ⟨Nat.le_of_ble_eq_true rfl, Nat.le_of_ble_eq_true rfl⟩ hK hP hD hS hA hZ (ci := 3) rfl rfl rfl [0, 1, 2] [3] (wr := [(ol, .inl (T 1, 1, .inr (.inl (fun k => ou k))))]) rfl rfl (by decide) (by decide) (by decide) [1, 2, 3, 0] (by decide) rfl (fun ce q9 H locs hP hD hS hce hcv hcl => ?_)
  refine zc_catch (hh := [((0 : Nat), (9 : Nat), (12 : Nat), (13 : Nat))]) (E := "java/lang/IndexOutOfBoundsException") hown hts htab hZ hN hce hcv hcl [] (⟨0, 9, 12, 13⟩ : ExceptionTableEntry) [] rfl (fun z hz => nomatch hz) (by decide) (by decide) u336 cs_425 ?_
  have hP : va_P D zcl [(x, .inr (3, [.ref vs, .ref es, .ref o, .ref t])), (vs, .inl (T 0, 8, .inl (fun k => nI (yv k)))), (es, .inl (T 1, 8, .inr (.inl (fun k => edge (yv k))))), (ol, .inl (T 1, 1, .inr (.inl (fun k => ou k))))] H := hP
  have hD : va_D A [(x, .inr (3, [.ref vs, .ref es, .ref o, .ref t])), (vs, .inl (T 0, 8, .inl (fun k => nI (yv k)))), (es, .inl (T 1, 8, .inr (.inl (fun k => edge (yv k))))), (ol, .inl (T 1, 1, .inr (.inl (fun k => ou k))))] := hD
  refine lv_astore_n (lv' := [(3, .ref q9), (0, .ref x), (1, .int x0), (2, .ref ol)]) hx hb dL_whole_12 rfl hl (by decide) rfl (fun ls hl => ?_)
  refine lv_iconst (v := 1) hx hb dL_whole_13 (by decide) ?_
  refine zc_more (cells' := 1) (slots' := 6) (Nat.le_of_ble_eq_true rfl) (Nat.le_of_ble_eq_true rfl) ?_
  exact zh_iret () hx hb hr hlocks dL_whole_14 hP hD hS (rfl) (rfl)
set_option maxRecDepth 20000 in
theorem w_bits_no (l : Launch) (hlf : l.stackTraces = false) (D : va_G) (T : Nat → ClassId) (x vs es o t : Nat) (yv : Nat → Nat) (ol : Nat) (ou : Nat → Int64) (x0 : Int32) (hx0 : m_X8_is x0 = false) : Cm l yL_bits cL_bits 4 (some FieldType.int) [((0 : Nat), (8 : Nat), (11 : Nat), (13 : Nat)), ((0 : Nat), (8 : Nat), (14 : Nat), (42 : Nat))] 8 D T [.ref x, .int x0, .ref ol] [(x, .inr (3, [.ref vs, .ref es, .ref o, .ref t])), (vs, .inl (T 0, 8, .inl (fun k => nI (yv k)))), (es, .inl (T 1, 8, .inr (.inl (fun k => edge (yv k))))), (ol, .inl (T 1, 1, .inr (.inl (fun k => ou k))))] (some (.int 1)) (fun _ : Unit => [(x, .inr (3, [.ref vs, .ref es, .ref o, .ref t])), (vs, .inl (T 0, 8, .inl (fun k => nI (yv k)))), (es, .inl (T 1, 8, .inr (.inl (fun k => edge (yv k))))), (ol, .inl (T 1, 1, .inr (.inl (fun k => ou k))))]) := by
  refine Cm.of (by decide) (Nat.le_of_ble_eq_true rfl) ?_
  intro zp ze s zm args below zmeth zc hx hb hr hml hown hts hlocks htab A hA hP hK hD hS hZ hN ls hl
  have hl : lv_has ls 4 [(0, .ref x), (1, .int x0), (2, .ref ol)] := hl
  refine lv_aload_n hx hb dL_bits_0 rfl (lv_at hl 2 rfl) ?_
  refine lv_iconst (v := 0) hx hb dL_bits_1 (by decide) ?_
  refine lv_aload_n hx hb dL_bits_2 rfl (lv_at hl 0 rfl) ?_
  refine lv_iload_n hx hb dL_bits_3 rfl (lv_at hl 1 rfl) ?_
  refine zt_v (T := T) hx hb hml hown hts k_L_38 (t_X7_bits_no l hlf D T x vs es o t yv x0 hx0) ⟨by decide, by decide⟩ rfl hl.1 [.int 0, .ref ol] rfl (Nat.le_of_ble_eq_true rfl) dL_bits_4 ⟨Nat.le_of_ble_eq_true rfl, Nat.le_of_ble_eq_true rfl⟩ hK hP hD hS hA hZ (ci := 3) rfl rfl rfl [0, 1, 2] [3] (wr := [(ol, .inl (T 1, 1, .inr (.inl (fun k => ou k))))]) rfl rfl (by decide) (by decide) (by decide) [1, 2, 3, 0] (by decide) rfl (fun ce q9 H locs hP hD hS hce hcv hcl => ?_)
  refine zc_catch (hh := [((0 : Nat), (8 : Nat), (11 : Nat), (13 : Nat)), ((0 : Nat), (8 : Nat), (14 : Nat), (42 : Nat))]) (E := "java/lang/IndexOutOfBoundsException") hown hts htab hZ hN hce hcv hcl [] (⟨0, 8, 11, 13⟩ : ExceptionTableEntry) [(⟨0, 8, 14, 42⟩ : ExceptionTableEntry)] rfl (fun z hz => nomatch hz) (by decide) (by decide) u336 cs_425 ?_
  have hP : va_P D zcl [(x, .inr (3, [.ref vs, .ref es, .ref o, .ref t])), (vs, .inl (T 0, 8, .inl (fun k => nI (yv k)))), (es, .inl (T 1, 8, .inr (.inl (fun k => edge (yv k))))), (ol, .inl (T 1, 1, .inr (.inl (fun k => ou k))))] H := hP
  have hD : va_D A [(x, .inr (3, [.ref vs, .ref es, .ref o, .ref t])), (vs, .inl (T 0, 8, .inl (fun k => nI (yv k)))), (es, .inl (T 1, 8, .inr (.inl (fun k => edge (yv k))))), (ol, .inl (T 1, 1, .inr (.inl (fun k => ou k))))] := hD
  refine lv_astore_n (lv' := [(3, .ref q9), (0, .ref x), (1, .int x0), (2, .ref ol)]) hx hb dL_bits_11 rfl hl (by decide) rfl (fun ls hl => ?_)
  refine lv_iconst (v := 1) hx hb dL_bits_12 (by decide) ?_
  refine zc_more (cells' := 1) (slots' := 6) (Nat.le_of_ble_eq_true rfl) (Nat.le_of_ble_eq_true rfl) ?_
  exact zh_iret () hx hb hr hlocks dL_bits_13 hP hD hS (rfl) (rfl)
set_option maxRecDepth 20000 in
theorem w_isExact_no (l : Launch) (hlf : l.stackTraces = false) (D : va_G) (T : Nat → ClassId) (x vs es o t : Nat) (yv : Nat → Nat) (ol : Nat) (ou : Nat → Int64) (x0 : Int32) (hx0 : m_X8_is x0 = false) : Cm l yL_isExact cL_isExact 4 (some FieldType.int) [((0 : Nat), (16 : Nat), (19 : Nat), (13 : Nat))] 8 D T [.ref x, .int x0, .ref ol] [(x, .inr (3, [.ref vs, .ref es, .ref o, .ref t])), (vs, .inl (T 0, 8, .inl (fun k => nI (yv k)))), (es, .inl (T 1, 8, .inr (.inl (fun k => edge (yv k))))), (ol, .inl (T 1, 1, .inr (.inl (fun k => ou k))))] (some (.int 1)) (fun _ : Unit => [(x, .inr (3, [.ref vs, .ref es, .ref o, .ref t])), (vs, .inl (T 0, 8, .inl (fun k => nI (yv k)))), (es, .inl (T 1, 8, .inr (.inl (fun k => edge (yv k))))), (ol, .inl (T 1, 1, .inr (.inl (fun k => ou k))))]) := by
  refine Cm.of (by decide) (Nat.le_of_ble_eq_true rfl) ?_
  intro zp ze s zm args below zmeth zc hx hb hr hml hown hts hlocks htab A hA hP hK hD hS hZ hN ls hl
  have hl : lv_has ls 4 [(0, .ref x), (1, .int x0), (2, .ref ol)] := hl
  refine lv_aload_n hx hb dL_isExact_0 rfl (lv_at hl 2 rfl) ?_
  refine lv_iconst (v := 0) hx hb dL_isExact_1 (by decide) ?_
  refine lv_aload_n hx hb dL_isExact_2 rfl (lv_at hl 0 rfl) ?_
  refine lv_iload_n hx hb dL_isExact_3 rfl (lv_at hl 1 rfl) ?_
  refine zt_v (T := T) hx hb hml hown hts k_L_34 (t_X7_isExact_no l hlf D T x vs es o t yv x0 hx0) ⟨by decide, by decide⟩ rfl hl.1 [.int 0, .ref ol] rfl (Nat.le_of_ble_eq_true rfl) dL_isExact_4 ⟨Nat.le_of_ble_eq_true rfl, Nat.le_of_ble_eq_true rfl⟩ hK hP hD hS hA hZ (ci := 3) rfl rfl rfl [0, 1, 2] [3] (wr := [(ol, .inl (T 1, 1, .inr (.inl (fun k => ou k))))]) rfl rfl (by decide) (by decide) (by decide) [1, 2, 3, 0] (by decide) rfl (fun ce q9 H locs hP hD hS hce hcv hcl => ?_)
  refine zc_catch (hh := [((0 : Nat), (16 : Nat), (19 : Nat), (13 : Nat))]) (E := "java/lang/IndexOutOfBoundsException") hown hts htab hZ hN hce hcv hcl [] (⟨0, 16, 19, 13⟩ : ExceptionTableEntry) [] rfl (fun z hz => nomatch hz) (by decide) (by decide) u336 cs_425 ?_
  have hP : va_P D zcl [(x, .inr (3, [.ref vs, .ref es, .ref o, .ref t])), (vs, .inl (T 0, 8, .inl (fun k => nI (yv k)))), (es, .inl (T 1, 8, .inr (.inl (fun k => edge (yv k))))), (ol, .inl (T 1, 1, .inr (.inl (fun k => ou k))))] H := hP
  have hD : va_D A [(x, .inr (3, [.ref vs, .ref es, .ref o, .ref t])), (vs, .inl (T 0, 8, .inl (fun k => nI (yv k)))), (es, .inl (T 1, 8, .inr (.inl (fun k => edge (yv k))))), (ol, .inl (T 1, 1, .inr (.inl (fun k => ou k))))] := hD
  refine lv_astore_n (lv' := [(3, .ref q9), (0, .ref x), (1, .int x0), (2, .ref ol)]) hx hb dL_isExact_19 rfl hl (by decide) rfl (fun ls hl => ?_)
  refine lv_iconst (v := 1) hx hb dL_isExact_20 (by decide) ?_
  refine zc_more (cells' := 1) (slots' := 6) (Nat.le_of_ble_eq_true rfl) (Nat.le_of_ble_eq_true rfl) ?_
  exact zh_iret () hx hb hr hlocks dL_isExact_21 hP hD hS (rfl) (rfl)
