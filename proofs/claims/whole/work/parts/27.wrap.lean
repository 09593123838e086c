/-! The law's own methods: each calls the class and tells what it threw. -/
theorem zc_more {p : Program} {l : Launch} {e : Env} {R : Room} {s : State} {m : MethodId} {args : Array Value} {below : List Frame} {meth : Method} {c : Code} {H : Heap} {locs : List Loc} {cells slots cells' slots' : Nat} {Q : State → Prop} {g : JFrame} (hc : cells ≤ cells') (hs : slots ≤ slots')
    (k : W p l e R s m args below meth c H locs cells' slots' Q g) : W p l e R s m args below meth c H locs cells slots Q g := fun T hT X => k T hT (X.mono hc hs)
def oS (V : Int64) (ou : Nat → Int64) : Nat → Int64 := fun k => if k = 0 then V else ou k
def oD (V : UInt64) (ou : Nat → UInt64) : Nat → UInt64 := fun k => if k = 0 then V else ou k
theorem cs_425 : Cond.castable "java/lang/IndexOutOfBoundsException" "java/lang/IndexOutOfBoundsException" ∈ zL := zL_mem 425 (by decide +kernel) rfl
theorem cs_439 : Cond.castable "java/lang/IllegalArgumentException" "java/lang/IllegalArgumentException" ∈ zL := zL_mem 439 (by decide +kernel) rfl
theorem cs_519 : Cond.castable "java/lang/ArithmeticException" "java/lang/ArithmeticException" ∈ zL := zL_mem 519 (by decide +kernel) rfl
theorem cs_658 : Cond.castable "java/lang/IllegalStateException" "java/lang/IllegalStateException" ∈ zL := zL_mem 658 (by decide +kernel) rfl
theorem cs_692 : Cond.castable "java/util/NoSuchElementException" "java/util/NoSuchElementException" ∈ zL := zL_mem 692 (by decide +kernel) rfl
def bL (b : Bool) : Int64 := if b = true then 1 else 0
section ZD
variable {p : Program} {l : Launch} {e : Env} {R : Room} {s : State} {m : MethodId} {args : Array Value} {below : List Frame} {meth : Method} {c : Code} {H : Heap} {locs : List Loc} {cells slots : Nat} {Q : State → Prop} {cc : ByteArray} {pc : Nat} {ls : Array Slot} {rest : List Value}
variable {D : va_G} {T : Nat → ClassId} {A : Nat → Prop} {ws : va_W} {a : Nat} {H0 : Heap}
theorem za_dast (hx : p.tables.exec = Jvm.exec) (hb : c.code = cc) (hK : va_K D zcl (zT T) s) (hP : va_P D zcl ws H) (hD : va_D A ws) (hS : va_S A H0 H locs) (q0 : Nat) {n : Nat} {f : Nat → UInt64} (ha : ws[q0]? = some (a, .inl (T 3, n, .inr (.inr (.inr (.inl f)))))) {i : Int32} {x : UInt64} (j : Nat) (hi : i = nI j) (hj : j < n) (hn : n < 2 ^ 31) (f' : Nat → UInt64) (hf : ∀ k : Nat, (if k = j then x else f k) = f' k) (hdg : decode cc pc = .ok (.dastore, 1))
    (kk : ∀ (H1 : Heap) (locs1 : List Loc), va_P D zcl (ws.set q0 (a, .inl (T 3, n, .inr (.inr (.inr (.inl f')))))) H1 → va_D A (ws.set q0 (a, .inl (T 3, n, .inr (.inr (.inr (.inl f')))))) → va_S A H0 H1 locs1 → W p l e R s m args below meth c H1 locs1 cells slots Q (F0 m (pc + 1) ls rest)) : W p l e R s m args below meth c H locs cells slots Q (F0 m pc ls (.double x :: .int i :: .ref a :: rest)) := by
  subst hi
  have he : f' = vf_upd f (nI j).toNatClampNeg x := by
    rw [nI_clamp (by omega)]
    exact funext fun k => (hf k).symm
  subst he
  exact va_dast hx hb hK hP hD hS q0 3 ha rfl (vp_in_nI hj hn) hdg kk
end ZD
set_option maxRecDepth 20000 in
theorem w_volume_ok (l : Launch) (hlf : l.stackTraces = false) (D : va_G) (T : Nat → ClassId) (x vs es o t : Nat) (yv : Nat → Nat) (ol : Nat) (ou : Nat → Int64) (p : Nat) (hp : p < 8) (hy : ∀ k, yv k < 262144) : Cm l yL_volume cL_volume 4 (some FieldType.int) [((0 : Nat), (9 : Nat), (12 : Nat), (13 : Nat))] 8 D T [.ref x, .int (nI p), .ref ol] [(x, .inr (3, [.ref vs, .ref es, .ref o, .ref t])), (vs, .inl (T 0, 8, .inl (fun k => nI (yv k)))), (es, .inl (T 1, 8, .inr (.inl (fun k => edge (yv k))))), (ol, .inl (T 1, 1, .inr (.inl (fun k => ou k))))] (some (.int 0)) (fun _ : Unit => [(x, .inr (3, [.ref vs, .ref es, .ref o, .ref t])), (vs, .inl (T 0, 8, .inl (fun k => nI (yv k)))), (es, .inl (T 1, 8, .inr (.inl (fun k => edge (yv k))))), (ol, .inl (T 1, 1, .inr (.inl (fun k => (oS (Int32.toInt64 (sgI (yv p))) ou) k))))]) := by
  refine Cm.of (by decide) (Nat.le_of_ble_eq_true rfl) ?_
  intro zp ze s zm args below zmeth zc hx hb hr hml hown hts hlocks htab A hA hP hK hD hS hZ hN ls hl
  have hl : lv_has ls 4 [(0, .ref x), (1, .int (nI p)), (2, .ref ol)] := hl
  refine lv_aload_n hx hb dL_volume_0 rfl (lv_at hl 2 rfl) ?_
  refine lv_iconst (v := 0) hx hb dL_volume_1 (by decide) ?_
  refine lv_aload_n hx hb dL_volume_2 rfl (lv_at hl 0 rfl) ?_
  refine lv_iload_n hx hb dL_volume_3 rfl (lv_at hl 1 rfl) ?_
  refine zh_v (T := T) hx hb hml hown hts k_L_17 (c_X7_volume_ok l D T x vs es o t yv p hp hy) ⟨by decide, by decide⟩ rfl hl.1 [.int 0, .ref ol] rfl (Nat.le_of_ble_eq_true rfl) dL_volume_4 ⟨Nat.le_of_ble_eq_true rfl, Nat.le_of_ble_eq_true rfl⟩ hK hP hD hS hA (ci := 3) rfl rfl rfl [0, 1, 2] [3] (wr := [(ol, .inl (T 1, 1, .inr (.inl (fun k => ou k))))]) rfl rfl (by decide) (by decide) (by decide) [1, 2, 3, 0] (fun _ => [(x, .inr (3, [.ref vs, .ref es, .ref o, .ref t])), (vs, .inl (T 0, 8, .inl (fun k => nI (yv k)))), (es, .inl (T 1, 8, .inr (.inl (fun k => edge (yv k))))), (ol, .inl (T 1, 1, .inr (.inl (fun k => ou k))))]) (by decide) (fun _ => rfl) (fun _ H locs hP hD hS => ?_)
  have hP : va_P D zcl [(x, .inr (3, [.ref vs, .ref es, .ref o, .ref t])), (vs, .inl (T 0, 8, .inl (fun k => nI (yv k)))), (es, .inl (T 1, 8, .inr (.inl (fun k => edge (yv k))))), (ol, .inl (T 1, 1, .inr (.inl (fun k => ou k))))] H := hP
  have hD : va_D A [(x, .inr (3, [.ref vs, .ref es, .ref o, .ref t])), (vs, .inl (T 0, 8, .inl (fun k => nI (yv k)))), (es, .inl (T 1, 8, .inr (.inl (fun k => edge (yv k))))), (ol, .inl (T 1, 1, .inr (.inl (fun k => ou k))))] := hD
  refine lv_i2l hx hb dL_volume_7 rfl ?_
  refine zf_l (x' := Int32.toInt64 (sgI (yv p))) (rfl) ?_
  refine za_last hx hb hK hP hD hS 3 rfl 0 (rfl) (by decide) (by decide) (fun k => oS (Int32.toInt64 (sgI (yv p))) ou k) (fun _ => rfl) dL_volume_8 (fun H locs hP hD hS => ?_)
  have hP : va_P D zcl [(x, .inr (3, [.ref vs, .ref es, .ref o, .ref t])), (vs, .inl (T 0, 8, .inl (fun k => nI (yv k)))), (es, .inl (T 1, 8, .inr (.inl (fun k => edge (yv k))))), (ol, .inl (T 1, 1, .inr (.inl (fun k => oS (Int32.toInt64 (sgI (yv p))) ou k))))] H := hP
  have hD : va_D A [(x, .inr (3, [.ref vs, .ref es, .ref o, .ref t])), (vs, .inl (T 0, 8, .inl (fun k => nI (yv k)))), (es, .inl (T 1, 8, .inr (.inl (fun k => edge (yv k))))), (ol, .inl (T 1, 1, .inr (.inl (fun k => oS (Int32.toInt64 (sgI (yv p))) ou k))))] := hD
  refine lv_goto (tgt := 15) hx hb dL_volume_9 (by decide) ?_
  refine lv_iconst (v := 0) hx hb dL_volume_15 (by decide) ?_
  refine zc_more (cells' := 1) (slots' := 6) (Nat.le_of_ble_eq_true rfl) (Nat.le_of_ble_eq_true rfl) ?_
  exact zh_iret () hx hb hr hlocks dL_volume_16 hP hD hS (rfl) (rfl)
set_option maxRecDepth 20000 in
theorem w_fine_ok (l : Launch) (hlf : l.stackTraces = false) (D : va_G) (T : Nat → ClassId) (x vs es o t : Nat) (yv : Nat → Nat) (ol : Nat) (ou : Nat → Int64) (p : Nat) (hp : p < 8) (hy : ∀ k, yv k < 262144) : Cm l yL_fine cL_fine 4 (some FieldType.int) [((0 : Nat), (9 : Nat), (12 : Nat), (13 : Nat))] 8 D T [.ref x, .int (nI p), .ref ol] [(x, .inr (3, [.ref vs, .ref es, .ref o, .ref t])), (vs, .inl (T 0, 8, .inl (fun k => nI (yv k)))), (es, .inl (T 1, 8, .inr (.inl (fun k => edge (yv k))))), (ol, .inl (T 1, 1, .inr (.inl (fun k => ou k))))] (some (.int 0)) (fun _ : Unit => [(x, .inr (3, [.ref vs, .ref es, .ref o, .ref t])), (vs, .inl (T 0, 8, .inl (fun k => nI (yv k)))), (es, .inl (T 1, 8, .inr (.inl (fun k => edge (yv k))))), (ol, .inl (T 1, 1, .inr (.inl (fun k => (oS (Int32.toInt64 (fI (yv p))) ou) k))))]) := by
  refine Cm.of (by decide) (Nat.le_of_ble_eq_true rfl) ?_
  intro zp ze s zm args below zmeth zc hx hb hr hml hown hts hlocks htab A hA hP hK hD hS hZ hN ls hl
  have hl : lv_has ls 4 [(0, .ref x), (1, .int (nI p)), (2, .ref ol)] := hl
  refine lv_aload_n hx hb dL_fine_0 rfl (lv_at hl 2 rfl) ?_
  refine lv_iconst (v := 0) hx hb dL_fine_1 (by decide) ?_
  refine lv_aload_n hx hb dL_fine_2 rfl (lv_at hl 0 rfl) ?_
  refine lv_iload_n hx hb dL_fine_3 rfl (lv_at hl 1 rfl) ?_
  refine zh_v (T := T) hx hb hml hown hts k_L_24 (c_X7_fine_ok l D T x vs es o t yv p hp hy) ⟨by decide, by decide⟩ rfl hl.1 [.int 0, .ref ol] rfl (Nat.le_of_ble_eq_true rfl) dL_fine_4 ⟨Nat.le_of_ble_eq_true rfl, Nat.le_of_ble_eq_true rfl⟩ hK hP hD hS hA (ci := 3) rfl rfl rfl [0, 1, 2] [3] (wr := [(ol, .inl (T 1, 1, .inr (.inl (fun k => ou k))))]) rfl rfl (by decide) (by decide) (by decide) [1, 2, 3, 0] (fun _ => [(x, .inr (3, [.ref vs, .ref es, .ref o, .ref t])), (vs, .inl (T 0, 8, .inl (fun k => nI (yv k)))), (es, .inl (T 1, 8, .inr (.inl (fun k => edge (yv k))))), (ol, .inl (T 1, 1, .inr (.inl (fun k => ou k))))]) (by decide) (fun _ => rfl) (fun _ H locs hP hD hS => ?_)
  have hP : va_P D zcl [(x, .inr (3, [.ref vs, .ref es, .ref o, .ref t])), (vs, .inl (T 0, 8, .inl (fun k => nI (yv k)))), (es, .inl (T 1, 8, .inr (.inl (fun k => edge (yv k))))), (ol, .inl (T 1, 1, .inr (.inl (fun k => ou k))))] H := hP
  have hD : va_D A [(x, .inr (3, [.ref vs, .ref es, .ref o, .ref t])), (vs, .inl (T 0, 8, .inl (fun k => nI (yv k)))), (es, .inl (T 1, 8, .inr (.inl (fun k => edge (yv k))))), (ol, .inl (T 1, 1, .inr (.inl (fun k => ou k))))] := hD
  refine lv_i2l hx hb dL_fine_7 rfl ?_
  refine zf_l (x' := Int32.toInt64 (fI (yv p))) (rfl) ?_
  refine za_last hx hb hK hP hD hS 3 rfl 0 (rfl) (by decide) (by decide) (fun k => oS (Int32.toInt64 (fI (yv p))) ou k) (fun _ => rfl) dL_fine_8 (fun H locs hP hD hS => ?_)
  have hP : va_P D zcl [(x, .inr (3, [.ref vs, .ref es, .ref o, .ref t])), (vs, .inl (T 0, 8, .inl (fun k => nI (yv k)))), (es, .inl (T 1, 8, .inr (.inl (fun k => edge (yv k))))), (ol, .inl (T 1, 1, .inr (.inl (fun k => oS (Int32.toInt64 (fI (yv p))) ou k))))] H := hP
  have hD : va_D A [(x, .inr (3, [.ref vs, .ref es, .ref o, .ref t])), (vs, .inl (T 0, 8, .inl (fun k => nI (yv k)))), (es, .inl (T 1, 8, .inr (.inl (fun k => edge (yv k))))), (ol, .inl (T 1, 1, .inr (.inl (fun k => oS (Int32.toInt64 (fI (yv p))) ou k))))] := hD
  refine lv_goto (tgt := 15) hx hb dL_fine_9 (by decide) ?_
  refine lv_iconst (v := 0) hx hb dL_fine_15 (by decide) ?_
  refine zc_more (cells' := 1) (slots' := 6) (Nat.le_of_ble_eq_true rfl) (Nat.le_of_ble_eq_true rfl) ?_
  exact zh_iret () hx hb hr hlocks dL_fine_16 hP hD hS (rfl) (rfl)
set_option maxRecDepth 20000 in
theorem w_whole_ok (l : Launch) (hlf : l.stackTraces = false) (D : va_G) (T : Nat → ClassId) (x vs es o t : Nat) (yv : Nat → Nat) (ol : Nat) (ou : Nat → Int64) (p : Nat) (hp : p < 8) (hy : ∀ k, yv k < 262144) : Cm l yL_whole cL_whole 4 (some FieldType.int) [((0 : Nat), (9 : Nat), (12 : Nat), (13 : Nat))] 8 D T [.ref x, .int (nI p), .ref ol] [(x, .inr (3, [.ref vs, .ref es, .ref o, .ref t])), (vs, .inl (T 0, 8, .inl (fun k => nI (yv k)))), (es, .inl (T 1, 8, .inr (.inl (fun k => edge (yv k))))), (ol, .inl (T 1, 1, .inr (.inl (fun k => ou k))))] (some (.int 0)) (fun _ : Unit => [(x, .inr (3, [.ref vs, .ref es, .ref o, .ref t])), (vs, .inl (T 0, 8, .inl (fun k => nI (yv k)))), (es, .inl (T 1, 8, .inr (.inl (fun k => edge (yv k))))), (ol, .inl (T 1, 1, .inr (.inl (fun k => (oS (Int32.toInt64 (fI (yv p) / 1024)) ou) k))))]) := by
  refine Cm.of (by decide) (Nat.le_of_ble_eq_true rfl) ?_
  intro zp ze s zm args below zmeth zc hx hb hr hml hown hts hlocks htab A hA hP hK hD hS hZ hN ls hl
  have hl : lv_has ls 4 [(0, .ref x), (1, .int (nI p)), (2, .ref ol)] := hl
  refine lv_aload_n hx hb dL_whole_0 rfl (lv_at hl 2 rfl) ?_
  refine lv_iconst (v := 0) hx hb dL_whole_1 (by decide) ?_
  refine lv_aload_n hx hb dL_whole_2 rfl (lv_at hl 0 rfl) ?_
  refine lv_iload_n hx hb dL_whole_3 rfl (lv_at hl 1 rfl) ?_
  refine zh_v (T := T) hx hb hml hown hts k_L_27 (c_X7_whole_ok l D T x vs es o t yv p hp hy) ⟨by decide, by decide⟩ rfl hl.1 [.int 0, .ref ol] rfl (Nat.le_of_ble_eq_true rfl) dL_whole_4 ⟨Nat.le_of_ble_eq_true rfl, Nat.le_of_ble_eq_true rfl⟩ hK hP hD hS hA (ci := 3) rfl rfl rfl [0, 1, 2] [3] (wr := [(ol, .inl (T 1, 1, .inr (.inl (fun k => ou k))))]) rfl rfl (by decide) (by decide) (by decide) [1, 2, 3, 0] (fun _ => [(x, .inr (3, [.ref vs, .ref es, .ref o, .ref t])), (vs, .inl (T 0, 8, .inl (fun k => nI (yv k)))), (es, .inl (T 1, 8, .inr (.inl (fun k => edge (yv k))))), (ol, .inl (T 1, 1, .inr (.inl (fun k => ou k))))]) (by decide) (fun _ => rfl) (fun _ H locs hP hD hS => ?_)
  have hP : va_P D zcl [(x, .inr (3, [.ref vs, .ref es, .ref o, .ref t])), (vs, .inl (T 0, 8, .inl (fun k => nI (yv k)))), (es, .inl (T 1, 8, .inr (.inl (fun k => edge (yv k))))), (ol, .inl (T 1, 1, .inr (.inl (fun k => ou k))))] H := hP
  have hD : va_D A [(x, .inr (3, [.ref vs, .ref es, .ref o, .ref t])), (vs, .inl (T 0, 8, .inl (fun k => nI (yv k)))), (es, .inl (T 1, 8, .inr (.inl (fun k => edge (yv k))))), (ol, .inl (T 1, 1, .inr (.inl (fun k => ou k))))] := hD
  refine lv_i2l hx hb dL_whole_7 rfl ?_
  refine zf_l (x' := Int32.toInt64 (fI (yv p) / 1024)) (rfl) ?_
  refine za_last hx hb hK hP hD hS 3 rfl 0 (rfl) (by decide) (by decide) (fun k => oS (Int32.toInt64 (fI (yv p) / 1024)) ou k) (fun _ => rfl) dL_whole_8 (fun H locs hP hD hS => ?_)
  have hP : va_P D zcl [(x, .inr (3, [.ref vs, .ref es, .ref o, .ref t])), (vs, .inl (T 0, 8, .inl (fun k => nI (yv k)))), (es, .inl (T 1, 8, .inr (.inl (fun k => edge (yv k))))), (ol, .inl (T 1, 1, .inr (.inl (fun k => oS (Int32.toInt64 (fI (yv p) / 1024)) ou k))))] H := hP
  have hD : va_D A [(x, .inr (3, [.ref vs, .ref es, .ref o, .ref t])), (vs, .inl (T 0, 8, .inl (fun k => nI (yv k)))), (es, .inl (T 1, 8, .inr (.inl (fun k => edge (yv k))))), (ol, .inl (T 1, 1, .inr (.inl (fun k => oS (Int32.toInt64 (fI (yv p) / 1024)) ou k))))] := hD
  refine lv_goto (tgt := 15) hx hb dL_whole_9 (by decide) ?_
  refine lv_iconst (v := 0) hx hb dL_whole_15 (by decide) ?_
  refine zc_more (cells' := 1) (slots' := 6) (Nat.le_of_ble_eq_true rfl) (Nat.le_of_ble_eq_true rfl) ?_
  exact zh_iret () hx hb hr hlocks dL_whole_16 hP hD hS (rfl) (rfl)
set_option maxRecDepth 20000 in
theorem w_kind_ok (l : Launch) (hlf : l.stackTraces = false) (D : va_G) (T : Nat → ClassId) (x vs es o t : Nat) (yv : Nat → Nat) (ol : Nat) (ou : Nat → Int64) (p : Nat) (hp : p < 8) (hy : ∀ k, yv k < 262144) : Cm l yL_kind cL_kind 4 (some FieldType.int) [((0 : Nat), (9 : Nat), (12 : Nat), (13 : Nat))] 8 D T [.ref x, .int (nI p), .ref ol] [(x, .inr (3, [.ref vs, .ref es, .ref o, .ref t])), (vs, .inl (T 0, 8, .inl (fun k => nI (yv k)))), (es, .inl (T 1, 8, .inr (.inl (fun k => edge (yv k))))), (ol, .inl (T 1, 1, .inr (.inl (fun k => ou k))))] (some (.int 0)) (fun _ : Unit => [(x, .inr (3, [.ref vs, .ref es, .ref o, .ref t])), (vs, .inl (T 0, 8, .inl (fun k => nI (yv k)))), (es, .inl (T 1, 8, .inr (.inl (fun k => edge (yv k))))), (ol, .inl (T 1, 1, .inr (.inl (fun k => (oS (Int32.toInt64 (nI (yv p % 4))) ou) k))))]) := by
  refine Cm.of (by decide) (Nat.le_of_ble_eq_true rfl) ?_
  intro zp ze s zm args below zmeth zc hx hb hr hml hown hts hlocks htab A hA hP hK hD hS hZ hN ls hl
  have hl : lv_has ls 4 [(0, .ref x), (1, .int (nI p)), (2, .ref ol)] := hl
  refine lv_aload_n hx hb dL_kind_0 rfl (lv_at hl 2 rfl) ?_
  refine lv_iconst (v := 0) hx hb dL_kind_1 (by decide) ?_
  refine lv_aload_n hx hb dL_kind_2 rfl (lv_at hl 0 rfl) ?_
  refine lv_iload_n hx hb dL_kind_3 rfl (lv_at hl 1 rfl) ?_
  refine zh_v (T := T) hx hb hml hown hts k_L_21 (c_X7_kind_ok l D T x vs es o t yv p hp hy) ⟨by decide, by decide⟩ rfl hl.1 [.int 0, .ref ol] rfl (Nat.le_of_ble_eq_true rfl) dL_kind_4 ⟨Nat.le_of_ble_eq_true rfl, Nat.le_of_ble_eq_true rfl⟩ hK hP hD hS hA (ci := 3) rfl rfl rfl [0, 1, 2] [3] (wr := [(ol, .inl (T 1, 1, .inr (.inl (fun k => ou k))))]) rfl rfl (by decide) (by decide) (by decide) [1, 2, 3, 0] (fun _ => [(x, .inr (3, [.ref vs, .ref es, .ref o, .ref t])), (vs, .inl (T 0, 8, .inl (fun k => nI (yv k)))), (es, .inl (T 1, 8, .inr (.inl (fun k => edge (yv k))))), (ol, .inl (T 1, 1, .inr (.inl (fun k => ou k))))]) (by decide) (fun _ => rfl) (fun _ H locs hP hD hS => ?_)
  have hP : va_P D zcl [(x, .inr (3, [.ref vs, .ref es, .ref o, .ref t])), (vs, .inl (T 0, 8, .inl (fun k => nI (yv k)))), (es, .inl (T 1, 8, .inr (.inl (fun k => edge (yv k))))), (ol, .inl (T 1, 1, .inr (.inl (fun k => ou k))))] H := hP
  have hD : va_D A [(x, .inr (3, [.ref vs, .ref es, .ref o, .ref t])), (vs, .inl (T 0, 8, .inl (fun k => nI (yv k)))), (es, .inl (T 1, 8, .inr (.inl (fun k => edge (yv k))))), (ol, .inl (T 1, 1, .inr (.inl (fun k => ou k))))] := hD
  refine lv_i2l hx hb dL_kind_7 rfl ?_
  refine zf_l (x' := Int32.toInt64 (nI (yv p % 4))) (rfl) ?_
  refine za_last hx hb hK hP hD hS 3 rfl 0 (rfl) (by decide) (by decide) (fun k => oS (Int32.toInt64 (nI (yv p % 4))) ou k) (fun _ => rfl) dL_kind_8 (fun H locs hP hD hS => ?_)
  have hP : va_P D zcl [(x, .inr (3, [.ref vs, .ref es, .ref o, .ref t])), (vs, .inl (T 0, 8, .inl (fun k => nI (yv k)))), (es, .inl (T 1, 8, .inr (.inl (fun k => edge (yv k))))), (ol, .inl (T 1, 1, .inr (.inl (fun k => oS (Int32.toInt64 (nI (yv p % 4))) ou k))))] H := hP
  have hD : va_D A [(x, .inr (3, [.ref vs, .ref es, .ref o, .ref t])), (vs, .inl (T 0, 8, .inl (fun k => nI (yv k)))), (es, .inl (T 1, 8, .inr (.inl (fun k => edge (yv k))))), (ol, .inl (T 1, 1, .inr (.inl (fun k => oS (Int32.toInt64 (nI (yv p % 4))) ou k))))] := hD
  refine lv_goto (tgt := 15) hx hb dL_kind_9 (by decide) ?_
  refine lv_iconst (v := 0) hx hb dL_kind_15 (by decide) ?_
  refine zc_more (cells' := 1) (slots' := 6) (Nat.le_of_ble_eq_true rfl) (Nat.le_of_ble_eq_true rfl) ?_
  exact zh_iret () hx hb hr hlocks dL_kind_16 hP hD hS (rfl) (rfl)
set_option maxRecDepth 20000 in
theorem w_isExact_ok (l : Launch) (hlf : l.stackTraces = false) (D : va_G) (T : Nat → ClassId) (x vs es o t : Nat) (yv : Nat → Nat) (ol : Nat) (ou : Nat → Int64) (p : Nat) (hp : p < 8) (hy : ∀ k, yv k < 262144) : Cm l yL_isExact cL_isExact 4 (some FieldType.int) [((0 : Nat), (16 : Nat), (19 : Nat), (13 : Nat))] 8 D T [.ref x, .int (nI p), .ref ol] [(x, .inr (3, [.ref vs, .ref es, .ref o, .ref t])), (vs, .inl (T 0, 8, .inl (fun k => nI (yv k)))), (es, .inl (T 1, 8, .inr (.inl (fun k => edge (yv k))))), (ol, .inl (T 1, 1, .inr (.inl (fun k => ou k))))] (some (.int 0)) (fun _ : Unit => [(x, .inr (3, [.ref vs, .ref es, .ref o, .ref t])), (vs, .inl (T 0, 8, .inl (fun k => nI (yv k)))), (es, .inl (T 1, 8, .inr (.inl (fun k => edge (yv k))))), (ol, .inl (T 1, 1, .inr (.inl (fun k => (oS (bL (exB (eig (yv p)))) ou) k))))]) := by
  refine Cm.of (by decide) (Nat.le_of_ble_eq_true rfl) ?_
  intro zp ze s zm args below zmeth zc hx hb hr hml hown hts hlocks htab A hA hP hK hD hS hZ hN ls hl
  have hl : lv_has ls 4 [(0, .ref x), (1, .int (nI p)), (2, .ref ol)] := hl
  refine lv_aload_n hx hb dL_isExact_0 rfl (lv_at hl 2 rfl) ?_
  refine lv_iconst (v := 0) hx hb dL_isExact_1 (by decide) ?_
  refine lv_aload_n hx hb dL_isExact_2 rfl (lv_at hl 0 rfl) ?_
  refine lv_iload_n hx hb dL_isExact_3 rfl (lv_at hl 1 rfl) ?_
  refine zh_v (T := T) hx hb hml hown hts k_L_34 (c_X7_isExact_ok l D T x vs es o t yv p hp hy) ⟨by decide, by decide⟩ rfl hl.1 [.int 0, .ref ol] rfl (Nat.le_of_ble_eq_true rfl) dL_isExact_4 ⟨Nat.le_of_ble_eq_true rfl, Nat.le_of_ble_eq_true rfl⟩ hK hP hD hS hA (ci := 3) rfl rfl rfl [0, 1, 2] [3] (wr := [(ol, .inl (T 1, 1, .inr (.inl (fun k => ou k))))]) rfl rfl (by decide) (by decide) (by decide) [1, 2, 3, 0] (fun _ => [(x, .inr (3, [.ref vs, .ref es, .ref o, .ref t])), (vs, .inl (T 0, 8, .inl (fun k => nI (yv k)))), (es, .inl (T 1, 8, .inr (.inl (fun k => edge (yv k))))), (ol, .inl (T 1, 1, .inr (.inl (fun k => ou k))))]) (by decide) (fun _ => rfl) (fun _ H locs hP hD hS => ?_)
  have hP : va_P D zcl [(x, .inr (3, [.ref vs, .ref es, .ref o, .ref t])), (vs, .inl (T 0, 8, .inl (fun k => nI (yv k)))), (es, .inl (T 1, 8, .inr (.inl (fun k => edge (yv k))))), (ol, .inl (T 1, 1, .inr (.inl (fun k => ou k))))] H := hP
  have hD : va_D A [(x, .inr (3, [.ref vs, .ref es, .ref o, .ref t])), (vs, .inl (T 0, 8, .inl (fun k => nI (yv k)))), (es, .inl (T 1, 8, .inr (.inl (fun k => edge (yv k))))), (ol, .inl (T 1, 1, .inr (.inl (fun k => ou k))))] := hD
  refine zb_eq (tgt := 14) hx hb dL_isExact_7 (by decide) (fun h1 => ?_) (fun h1 => ?_)
  · refine lv_lconst (v := 0) hx hb dL_isExact_14 (by decide) ?_
    refine zf_l (x' := bL (exB (eig (yv p)))) (show _ = (if exB (eig (yv p)) = true then 1 else 0) by rw [h1]; rfl) ?_
    refine za_last hx hb hK hP hD hS 3 rfl 0 (rfl) (by decide) (by decide) (fun k => oS (bL (exB (eig (yv p)))) ou k) (fun _ => rfl) dL_isExact_15 (fun H locs hP hD hS => ?_)
    have hP : va_P D zcl [(x, .inr (3, [.ref vs, .ref es, .ref o, .ref t])), (vs, .inl (T 0, 8, .inl (fun k => nI (yv k)))), (es, .inl (T 1, 8, .inr (.inl (fun k => edge (yv k))))), (ol, .inl (T 1, 1, .inr (.inl (fun k => oS (bL (exB (eig (yv p)))) ou k))))] H := hP
    have hD : va_D A [(x, .inr (3, [.ref vs, .ref es, .ref o, .ref t])), (vs, .inl (T 0, 8, .inl (fun k => nI (yv k)))), (es, .inl (T 1, 8, .inr (.inl (fun k => edge (yv k))))), (ol, .inl (T 1, 1, .inr (.inl (fun k => oS (bL (exB (eig (yv p)))) ou k))))] := hD
    refine lv_goto (tgt := 22) hx hb dL_isExact_16 (by decide) ?_
    refine lv_iconst (v := 0) hx hb dL_isExact_22 (by decide) ?_
    refine zc_more (cells' := 1) (slots' := 6) (Nat.le_of_ble_eq_true rfl) (Nat.le_of_ble_eq_true rfl) ?_
    exact zh_iret () hx hb hr hlocks dL_isExact_23 hP hD hS (rfl) (rfl)
  · refine lv_lconst (v := 1) hx hb dL_isExact_10 (by decide) ?_
    refine zf_l (x' := bL (exB (eig (yv p)))) (show _ = (if exB (eig (yv p)) = true then 1 else 0) by rw [h1]; rfl) ?_
    refine lv_goto (tgt := 15) hx hb dL_isExact_11 (by decide) ?_
    refine za_last hx hb hK hP hD hS 3 rfl 0 (rfl) (by decide) (by decide) (fun k => oS (bL (exB (eig (yv p)))) ou k) (fun _ => rfl) dL_isExact_15 (fun H locs hP hD hS => ?_)
    have hP : va_P D zcl [(x, .inr (3, [.ref vs, .ref es, .ref o, .ref t])), (vs, .inl (T 0, 8, .inl (fun k => nI (yv k)))), (es, .inl (T 1, 8, .inr (.inl (fun k => edge (yv k))))), (ol, .inl (T 1, 1, .inr (.inl (fun k => oS (bL (exB (eig (yv p)))) ou k))))] H := hP
    have hD : va_D A [(x, .inr (3, [.ref vs, .ref es, .ref o, .ref t])), (vs, .inl (T 0, 8, .inl (fun k => nI (yv k)))), (es, .inl (T 1, 8, .inr (.inl (fun k => edge (yv k))))), (ol, .inl (T 1, 1, .inr (.inl (fun k => oS (bL (exB (eig (yv p)))) ou k))))] := hD
    refine lv_goto (tgt := 22) hx hb dL_isExact_16 (by decide) ?_
    refine lv_iconst (v := 0) hx hb dL_isExact_22 (by decide) ?_
    refine zc_more (cells' := 1) (slots' := 6) (Nat.le_of_ble_eq_true rfl) (Nat.le_of_ble_eq_true rfl) ?_
    exact zh_iret () hx hb hr hlocks dL_isExact_23 hP hD hS (rfl) (rfl)
set_option maxRecDepth 20000 in
theorem w_bits_ok (l : Launch) (hlf : l.stackTraces = false) (D : va_G) (T : Nat → ClassId) (x vs es o t : Nat) (yv : Nat → Nat) (ol : Nat) (ou : Nat → Int64) (p : Nat) (hp : p < 8) (hy : ∀ k, yv k < 262144) (he : exB (eig (yv p)) = true) : Cm l yL_bits cL_bits 4 (some FieldType.int) [((0 : Nat), (8 : Nat), (11 : Nat), (13 : Nat)), ((0 : Nat), (8 : Nat), (14 : Nat), (42 : Nat))] 8 D T [.ref x, .int (nI p), .ref ol] [(x, .inr (3, [.ref vs, .ref es, .ref o, .ref t])), (vs, .inl (T 0, 8, .inl (fun k => nI (yv k)))), (es, .inl (T 1, 8, .inr (.inl (fun k => edge (yv k))))), (ol, .inl (T 1, 1, .inr (.inl (fun k => ou k))))] (some (.int 0)) (fun _ : Unit => [(x, .inr (3, [.ref vs, .ref es, .ref o, .ref t])), (vs, .inl (T 0, 8, .inl (fun k => nI (yv k)))), (es, .inl (T 1, 8, .inr (.inl (fun k => edge (yv k))))), (ol, .inl (T 1, 1, .inr (.inl (fun k => (oS (edge (yv p)) ou) k))))]) := by
  refine Cm.of (by decide) (Nat.le_of_ble_eq_true rfl) ?_
  intro zp ze s zm args below zmeth zc hx hb hr hml hown hts hlocks htab A hA hP hK hD hS hZ hN ls hl
  have hl : lv_has ls 4 [(0, .ref x), (1, .int (nI p)), (2, .ref ol)] := hl
  refine lv_aload_n hx hb dL_bits_0 rfl (lv_at hl 2 rfl) ?_
  refine lv_iconst (v := 0) hx hb dL_bits_1 (by decide) ?_
  refine lv_aload_n hx hb dL_bits_2 rfl (lv_at hl 0 rfl) ?_
  refine lv_iload_n hx hb dL_bits_3 rfl (lv_at hl 1 rfl) ?_
  refine zh_v (T := T) hx hb hml hown hts k_L_38 (c_X7_bits_ok l D T x vs es o t yv p hp hy he) ⟨by decide, by decide⟩ rfl hl.1 [.int 0, .ref ol] rfl (Nat.le_of_ble_eq_true rfl) dL_bits_4 ⟨Nat.le_of_ble_eq_true rfl, Nat.le_of_ble_eq_true rfl⟩ hK hP hD hS hA (ci := 3) rfl rfl rfl [0, 1, 2] [3] (wr := [(ol, .inl (T 1, 1, .inr (.inl (fun k => ou k))))]) rfl rfl (by decide) (by decide) (by decide) [1, 2, 3, 0] (fun _ => [(x, .inr (3, [.ref vs, .ref es, .ref o, .ref t])), (vs, .inl (T 0, 8, .inl (fun k => nI (yv k)))), (es, .inl (T 1, 8, .inr (.inl (fun k => edge (yv k))))), (ol, .inl (T 1, 1, .inr (.inl (fun k => ou k))))]) (by decide) (fun _ => rfl) (fun _ H locs hP hD hS => ?_)
  have hP : va_P D zcl [(x, .inr (3, [.ref vs, .ref es, .ref o, .ref t])), (vs, .inl (T 0, 8, .inl (fun k => nI (yv k)))), (es, .inl (T 1, 8, .inr (.inl (fun k => edge (yv k))))), (ol, .inl (T 1, 1, .inr (.inl (fun k => ou k))))] H := hP
  have hD : va_D A [(x, .inr (3, [.ref vs, .ref es, .ref o, .ref t])), (vs, .inl (T 0, 8, .inl (fun k => nI (yv k)))), (es, .inl (T 1, 8, .inr (.inl (fun k => edge (yv k))))), (ol, .inl (T 1, 1, .inr (.inl (fun k => ou k))))] := hD
  refine za_last hx hb hK hP hD hS 3 rfl 0 (rfl) (by decide) (by decide) (fun k => oS (edge (yv p)) ou k) (fun _ => rfl) dL_bits_7 (fun H locs hP hD hS => ?_)
  have hP : va_P D zcl [(x, .inr (3, [.ref vs, .ref es, .ref o, .ref t])), (vs, .inl (T 0, 8, .inl (fun k => nI (yv k)))), (es, .inl (T 1, 8, .inr (.inl (fun k => edge (yv k))))), (ol, .inl (T 1, 1, .inr (.inl (fun k => oS (edge (yv p)) ou k))))] H := hP
  have hD : va_D A [(x, .inr (3, [.ref vs, .ref es, .ref o, .ref t])), (vs, .inl (T 0, 8, .inl (fun k => nI (yv k)))), (es, .inl (T 1, 8, .inr (.inl (fun k => edge (yv k))))), (ol, .inl (T 1, 1, .inr (.inl (fun k => oS (edge (yv p)) ou k))))] := hD
  refine lv_goto (tgt := 17) hx hb dL_bits_8 (by decide) ?_
  refine lv_iconst (v := 0) hx hb dL_bits_17 (by decide) ?_
  refine zc_more (cells' := 1) (slots' := 6) (Nat.le_of_ble_eq_true rfl) (Nat.le_of_ble_eq_true rfl) ?_
  exact zh_iret () hx hb hr hlocks dL_bits_18 hP hD hS (rfl) (rfl)
set_option maxRecDepth 20000 in
theorem w_order_ok (l : Launch) (hlf : l.stackTraces = false) (D : va_G) (T : Nat → ClassId) (x vs es o t : Nat) (yv : Nat → Nat) (ol : Nat) (ou : Nat → Int64) (p : Nat) (hp : p < 8) (p2 : Nat) (hp2 : p2 < 8) (hy : ∀ k, yv k < 262144) : Cm l yL_order cL_order 5 (some FieldType.int) [((0 : Nat), (10 : Nat), (13 : Nat), (13 : Nat))] 8 D T [.ref x, .int (nI p), .int (nI p2), .ref ol] [(x, .inr (3, [.ref vs, .ref es, .ref o, .ref t])), (vs, .inl (T 0, 8, .inl (fun k => nI (yv k)))), (es, .inl (T 1, 8, .inr (.inl (fun k => edge (yv k))))), (ol, .inl (T 1, 1, .inr (.inl (fun k => ou k))))] (some (.int 0)) (fun _ : Unit => [(x, .inr (3, [.ref vs, .ref es, .ref o, .ref t])), (vs, .inl (T 0, 8, .inl (fun k => nI (yv k)))), (es, .inl (T 1, 8, .inr (.inl (fun k => edge (yv k))))), (ol, .inl (T 1, 1, .inr (.inl (fun k => (oS (Int32.toInt64 (ordI (yv p) (yv p2))) ou) k))))]) := by
  refine Cm.of (by decide) (Nat.le_of_ble_eq_true rfl) ?_
  intro zp ze s zm args below zmeth zc hx hb hr hml hown hts hlocks htab A hA hP hK hD hS hZ hN ls hl
  have hl : lv_has ls 5 [(0, .ref x), (1, .int (nI p)), (2, .int (nI p2)), (3, .ref ol)] := hl
  refine lv_aload_n hx hb dL_order_0 rfl (lv_at hl 3 rfl) ?_
  refine lv_iconst (v := 0) hx hb dL_order_1 (by decide) ?_
  refine lv_aload_n hx hb dL_order_2 rfl (lv_at hl 0 rfl) ?_
  refine lv_iload_n hx hb dL_order_3 rfl (lv_at hl 1 rfl) ?_
  refine lv_iload_n hx hb dL_order_4 rfl (lv_at hl 2 rfl) ?_
  refine zh_v (T := T) hx hb hml hown hts k_L_44 (c_X7_order_ok l D T x vs es o t yv p hp p2 hp2 hy) ⟨by decide, by decide⟩ rfl hl.1 [.int 0, .ref ol] rfl (Nat.le_of_ble_eq_true rfl) dL_order_5 ⟨Nat.le_of_ble_eq_true rfl, Nat.le_of_ble_eq_true rfl⟩ hK hP hD hS hA (ci := 3) rfl rfl rfl [0, 1, 2] [3] (wr := [(ol, .inl (T 1, 1, .inr (.inl (fun k => ou k))))]) rfl rfl (by decide) (by decide) (by decide) [1, 2, 3, 0] (fun _ => [(x, .inr (3, [.ref vs, .ref es, .ref o, .ref t])), (vs, .inl (T 0, 8, .inl (fun k => nI (yv k)))), (es, .inl (T 1, 8, .inr (.inl (fun k => edge (yv k))))), (ol, .inl (T 1, 1, .inr (.inl (fun k => ou k))))]) (by decide) (fun _ => rfl) (fun _ H locs hP hD hS => ?_)
  have hP : va_P D zcl [(x, .inr (3, [.ref vs, .ref es, .ref o, .ref t])), (vs, .inl (T 0, 8, .inl (fun k => nI (yv k)))), (es, .inl (T 1, 8, .inr (.inl (fun k => edge (yv k))))), (ol, .inl (T 1, 1, .inr (.inl (fun k => ou k))))] H := hP
  have hD : va_D A [(x, .inr (3, [.ref vs, .ref es, .ref o, .ref t])), (vs, .inl (T 0, 8, .inl (fun k => nI (yv k)))), (es, .inl (T 1, 8, .inr (.inl (fun k => edge (yv k))))), (ol, .inl (T 1, 1, .inr (.inl (fun k => ou k))))] := hD
  refine lv_i2l hx hb dL_order_8 rfl ?_
  refine zf_l (x' := Int32.toInt64 (ordI (yv p) (yv p2))) (rfl) ?_
  refine za_last hx hb hK hP hD hS 3 rfl 0 (rfl) (by decide) (by decide) (fun k => oS (Int32.toInt64 (ordI (yv p) (yv p2))) ou k) (fun _ => rfl) dL_order_9 (fun H locs hP hD hS => ?_)
  have hP : va_P D zcl [(x, .inr (3, [.ref vs, .ref es, .ref o, .ref t])), (vs, .inl (T 0, 8, .inl (fun k => nI (yv k)))), (es, .inl (T 1, 8, .inr (.inl (fun k => edge (yv k))))), (ol, .inl (T 1, 1, .inr (.inl (fun k => oS (Int32.toInt64 (ordI (yv p) (yv p2))) ou k))))] H := hP
  have hD : va_D A [(x, .inr (3, [.ref vs, .ref es, .ref o, .ref t])), (vs, .inl (T 0, 8, .inl (fun k => nI (yv k)))), (es, .inl (T 1, 8, .inr (.inl (fun k => edge (yv k))))), (ol, .inl (T 1, 1, .inr (.inl (fun k => oS (Int32.toInt64 (ordI (yv p) (yv p2))) ou k))))] := hD
  refine lv_goto (tgt := 17) hx hb dL_order_10 (by decide) ?_
  refine lv_iconst (v := 0) hx hb dL_order_17 (by decide) ?_
  refine zc_more (cells' := 1) (slots' := 6) (Nat.le_of_ble_eq_true rfl) (Nat.le_of_ble_eq_true rfl) ?_
  exact zh_iret () hx hb hr hlocks dL_order_18 hP hD hS (rfl) (rfl)
set_option maxRecDepth 20000 in
theorem w_grow_ok (l : Launch) (hlf : l.stackTraces = false) (D : va_G) (T : Nat → ClassId) (x vs es o t : Nat) (yv : Nat → Nat) (ol : Nat) (ou : Nat → Int64) (p : Nat) (hp : p < 8) (x0 : Int32) (c1 : Nat) (hc1 : c1 < 65536) (hg : lN (yv p / 4) + Int32.toInt64 x0 = lN c1) (hy : ∀ k, yv k < 262144) : Cm l yL_grow cL_grow 5 (some FieldType.int) [((0 : Nat), (10 : Nat), (13 : Nat), (13 : Nat)), ((0 : Nat), (10 : Nat), (17 : Nat), (42 : Nat))] 8 D T [.ref x, .int (nI p), .int x0, .ref ol] [(x, .inr (3, [.ref vs, .ref es, .ref o, .ref t])), (vs, .inl (T 0, 8, .inl (fun k => nI (yv k)))), (es, .inl (T 1, 8, .inr (.inl (fun k => edge (yv k))))), (ol, .inl (T 1, 1, .inr (.inl (fun k => ou k))))] (some (.int 0)) (fun _ : Unit => [(x, .inr (3, [.ref vs, .ref es, .ref o, .ref t])), (vs, .inl (T 0, 8, .inl (fun k => nI ((up yv p (gN (yv p) c1)) k)))), (es, .inl (T 1, 8, .inr (.inl (fun k => edge ((up yv p (gN (yv p) c1)) k))))), (ol, .inl (T 1, 1, .inr (.inl (fun k => (oS (Int32.toInt64 (nI (fN (eig (gN (yv p) c1))) - nI (fN (eig (yv p))))) ou) k))))]) := by
  refine Cm.of (by decide) (Nat.le_of_ble_eq_true rfl) ?_
  intro zp ze s zm args below zmeth zc hx hb hr hml hown hts hlocks htab A hA hP hK hD hS hZ hN ls hl
  have hl : lv_has ls 5 [(0, .ref x), (1, .int (nI p)), (2, .int x0), (3, .ref ol)] := hl
  refine lv_aload_n hx hb dL_grow_0 rfl (lv_at hl 3 rfl) ?_
  refine lv_iconst (v := 0) hx hb dL_grow_1 (by decide) ?_
  refine lv_aload_n hx hb dL_grow_2 rfl (lv_at hl 0 rfl) ?_
  refine lv_iload_n hx hb dL_grow_3 rfl (lv_at hl 1 rfl) ?_
  refine lv_iload_n hx hb dL_grow_4 rfl (lv_at hl 2 rfl) ?_
  refine zh_v (T := T) hx hb hml hown hts k_L_48 (c_X7_grow_ok l D T x vs es o t yv p hp x0 c1 hc1 hg hy) ⟨by decide, by decide⟩ rfl hl.1 [.int 0, .ref ol] rfl (Nat.le_of_ble_eq_true rfl) dL_grow_5 ⟨Nat.le_of_ble_eq_true rfl, Nat.le_of_ble_eq_true rfl⟩ hK hP hD hS hA (ci := 3) rfl rfl rfl [0, 1, 2] [3] (wr := [(ol, .inl (T 1, 1, .inr (.inl (fun k => ou k))))]) rfl rfl (by decide) (by decide) (by decide) [1, 2, 3, 0] (fun _ => [(x, .inr (3, [.ref vs, .ref es, .ref o, .ref t])), (vs, .inl (T 0, 8, .inl (fun k => nI ((up yv p (gN (yv p) c1)) k)))), (es, .inl (T 1, 8, .inr (.inl (fun k => edge ((up yv p (gN (yv p) c1)) k))))), (ol, .inl (T 1, 1, .inr (.inl (fun k => ou k))))]) (by decide) (fun _ => rfl) (fun _ H locs hP hD hS => ?_)
  have hP : va_P D zcl [(x, .inr (3, [.ref vs, .ref es, .ref o, .ref t])), (vs, .inl (T 0, 8, .inl (fun k => nI ((up yv p (gN (yv p) c1)) k)))), (es, .inl (T 1, 8, .inr (.inl (fun k => edge ((up yv p (gN (yv p) c1)) k))))), (ol, .inl (T 1, 1, .inr (.inl (fun k => ou k))))] H := hP
  have hD : va_D A [(x, .inr (3, [.ref vs, .ref es, .ref o, .ref t])), (vs, .inl (T 0, 8, .inl (fun k => nI ((up yv p (gN (yv p) c1)) k)))), (es, .inl (T 1, 8, .inr (.inl (fun k => edge ((up yv p (gN (yv p) c1)) k))))), (ol, .inl (T 1, 1, .inr (.inl (fun k => ou k))))] := hD
  refine lv_i2l hx hb dL_grow_8 rfl ?_
  refine zf_l (x' := Int32.toInt64 (nI (fN (eig (gN (yv p) c1))) - nI (fN (eig (yv p))))) (rfl) ?_
  refine za_last hx hb hK hP hD hS 3 rfl 0 (rfl) (by decide) (by decide) (fun k => oS (Int32.toInt64 (nI (fN (eig (gN (yv p) c1))) - nI (fN (eig (yv p))))) ou k) (fun _ => rfl) dL_grow_9 (fun H locs hP hD hS => ?_)
  have hP : va_P D zcl [(x, .inr (3, [.ref vs, .ref es, .ref o, .ref t])), (vs, .inl (T 0, 8, .inl (fun k => nI ((up yv p (gN (yv p) c1)) k)))), (es, .inl (T 1, 8, .inr (.inl (fun k => edge ((up yv p (gN (yv p) c1)) k))))), (ol, .inl (T 1, 1, .inr (.inl (fun k => oS (Int32.toInt64 (nI (fN (eig (gN (yv p) c1))) - nI (fN (eig (yv p))))) ou k))))] H := hP
  have hD : va_D A [(x, .inr (3, [.ref vs, .ref es, .ref o, .ref t])), (vs, .inl (T 0, 8, .inl (fun k => nI ((up yv p (gN (yv p) c1)) k)))), (es, .inl (T 1, 8, .inr (.inl (fun k => edge ((up yv p (gN (yv p) c1)) k))))), (ol, .inl (T 1, 1, .inr (.inl (fun k => oS (Int32.toInt64 (nI (fN (eig (gN (yv p) c1))) - nI (fN (eig (yv p))))) ou k))))] := hD
  refine lv_goto (tgt := 21) hx hb dL_grow_10 (by decide) ?_
  refine lv_iconst (v := 0) hx hb dL_grow_21 (by decide) ?_
  refine zc_more (cells' := 1) (slots' := 6) (Nat.le_of_ble_eq_true rfl) (Nat.le_of_ble_eq_true rfl) ?_
  exact zh_iret () hx hb hr hlocks dL_grow_22 hP hD hS (rfl) (rfl)
set_option maxRecDepth 20000 in
theorem w_put_ok (l : Launch) (hlf : l.stackTraces = false) (D : va_G) (T : Nat → ClassId) (x vs es o t : Nat) (yv : Nat → Nat) (ol : Nat) (ou : Nat → Int64) (p : Nat) (hp : p < 8) (cc : Nat) (hcc : cc < 65536) (e0 b0 : Bool) : Cm l yL_put cL_put 7 (some FieldType.int) [((0 : Nat), (14 : Nat), (17 : Nat), (13 : Nat)), ((0 : Nat), (14 : Nat), (21 : Nat), (15 : Nat))] 8 D T [.ref x, .int (nI p), .int (nI cc), .int (bI e0), .int (bI b0), .ref ol] [(x, .inr (3, [.ref vs, .ref es, .ref o, .ref t])), (vs, .inl (T 0, 8, .inl (fun k => nI (yv k)))), (es, .inl (T 1, 8, .inr (.inl (fun k => edge (yv k))))), (ol, .inl (T 1, 1, .inr (.inl (fun k => ou k))))] (some (.int 0)) (fun _ : Unit => [(x, .inr (3, [.ref vs, .ref es, .ref o, .ref t])), (vs, .inl (T 0, 8, .inl (fun k => nI ((up yv p (mk cc e0 b0)) k)))), (es, .inl (T 1, 8, .inr (.inl (fun k => edge ((up yv p (mk cc e0 b0)) k))))), (ol, .inl (T 1, 1, .inr (.inl (fun k => (oS (Int32.toInt64 (fI (mk cc e0 b0))) ou) k))))]) := by
  refine Cm.of (by decide) (Nat.le_of_ble_eq_true rfl) ?_
  intro zp ze s zm args below zmeth zc hx hb hr hml hown hts hlocks htab A hA hP hK hD hS hZ hN ls hl
  have hl : lv_has ls 7 [(0, .ref x), (1, .int (nI p)), (2, .int (nI cc)), (3, .int (bI e0)), (4, .int (bI b0)), (5, .ref ol)] := hl
  refine lv_aload hx hb dL_put_0 (lv_at hl 5 rfl) ?_
  refine lv_iconst (v := 0) hx hb dL_put_2 (by decide) ?_
  refine lv_aload_n hx hb dL_put_3 rfl (lv_at hl 0 rfl) ?_
  refine lv_iload_n hx hb dL_put_4 rfl (lv_at hl 1 rfl) ?_
  refine lv_iload_n hx hb dL_put_5 rfl (lv_at hl 2 rfl) ?_
  refine lv_iload_n hx hb dL_put_6 rfl (lv_at hl 3 rfl) ?_
  refine lv_iload hx hb dL_put_7 (lv_at hl 4 rfl) ?_
  refine zh_v (T := T) hx hb hml hown hts k_L_7 (c_X7_put_ok l D T x vs es o t yv p hp cc hcc e0 b0) ⟨by decide, by decide⟩ rfl hl.1 [.int 0, .ref ol] rfl (Nat.le_of_ble_eq_true rfl) dL_put_9 ⟨Nat.le_of_ble_eq_true rfl, Nat.le_of_ble_eq_true rfl⟩ hK hP hD hS hA (ci := 3) rfl rfl rfl [0, 1, 2] [3] (wr := [(ol, .inl (T 1, 1, .inr (.inl (fun k => ou k))))]) rfl rfl (by decide) (by decide) (by decide) [1, 2, 3, 0] (fun _ => [(x, .inr (3, [.ref vs, .ref es, .ref o, .ref t])), (vs, .inl (T 0, 8, .inl (fun k => nI ((up yv p (mk cc e0 b0)) k)))), (es, .inl (T 1, 8, .inr (.inl (fun k => edge ((up yv p (mk cc e0 b0)) k))))), (ol, .inl (T 1, 1, .inr (.inl (fun k => ou k))))]) (by decide) (fun _ => rfl) (fun _ H locs hP hD hS => ?_)
  have hP : va_P D zcl [(x, .inr (3, [.ref vs, .ref es, .ref o, .ref t])), (vs, .inl (T 0, 8, .inl (fun k => nI ((up yv p (mk cc e0 b0)) k)))), (es, .inl (T 1, 8, .inr (.inl (fun k => edge ((up yv p (mk cc e0 b0)) k))))), (ol, .inl (T 1, 1, .inr (.inl (fun k => ou k))))] H := hP
  have hD : va_D A [(x, .inr (3, [.ref vs, .ref es, .ref o, .ref t])), (vs, .inl (T 0, 8, .inl (fun k => nI ((up yv p (mk cc e0 b0)) k)))), (es, .inl (T 1, 8, .inr (.inl (fun k => edge ((up yv p (mk cc e0 b0)) k))))), (ol, .inl (T 1, 1, .inr (.inl (fun k => ou k))))] := hD
  refine lv_i2l hx hb dL_put_12 rfl ?_
  refine zf_l (x' := Int32.toInt64 (fI (mk cc e0 b0))) (rfl) ?_
  refine za_last hx hb hK hP hD hS 3 rfl 0 (rfl) (by decide) (by decide) (fun k => oS (Int32.toInt64 (fI (mk cc e0 b0))) ou k) (fun _ => rfl) dL_put_13 (fun H locs hP hD hS => ?_)
  have hP : va_P D zcl [(x, .inr (3, [.ref vs, .ref es, .ref o, .ref t])), (vs, .inl (T 0, 8, .inl (fun k => nI ((up yv p (mk cc e0 b0)) k)))), (es, .inl (T 1, 8, .inr (.inl (fun k => edge ((up yv p (mk cc e0 b0)) k))))), (ol, .inl (T 1, 1, .inr (.inl (fun k => oS (Int32.toInt64 (fI (mk cc e0 b0))) ou k))))] H := hP
  have hD : va_D A [(x, .inr (3, [.ref vs, .ref es, .ref o, .ref t])), (vs, .inl (T 0, 8, .inl (fun k => nI ((up yv p (mk cc e0 b0)) k)))), (es, .inl (T 1, 8, .inr (.inl (fun k => edge ((up yv p (mk cc e0 b0)) k))))), (ol, .inl (T 1, 1, .inr (.inl (fun k => oS (Int32.toInt64 (fI (mk cc e0 b0))) ou k))))] := hD
  refine lv_goto (tgt := 25) hx hb dL_put_14 (by decide) ?_
  refine lv_iconst (v := 0) hx hb dL_put_25 (by decide) ?_
  refine zc_more (cells' := 1) (slots' := 6) (Nat.le_of_ble_eq_true rfl) (Nat.le_of_ble_eq_true rfl) ?_
  exact zh_iret () hx hb hr hlocks dL_put_26 hP hD hS (rfl) (rfl)
set_option maxRecDepth 20000 in
theorem w_opposite_ok (l : Launch) (hlf : l.stackTraces = false) (D : va_G) (T : Nat → ClassId) (x vs es o t : Nat) (yv : Nat → Nat) (ol : Nat) (ou : Nat → Int64) (p : Nat) (hp : p < 8) (p2 : Nat) (hp2 : p2 < 8) (hy : ∀ k, yv k < 262144) : Cm l yL_opposite cL_opposite 5 (some FieldType.int) [((0 : Nat), (17 : Nat), (20 : Nat), (13 : Nat))] 8 D T [.ref x, .int (nI p), .int (nI p2), .ref ol] [(x, .inr (3, [.ref vs, .ref es, .ref o, .ref t])), (vs, .inl (T 0, 8, .inl (fun k => nI (yv k)))), (es, .inl (T 1, 8, .inr (.inl (fun k => edge (yv k))))), (ol, .inl (T 1, 1, .inr (.inl (fun k => ou k))))] (some (.int 0)) (fun _ : Unit => [(x, .inr (3, [.ref vs, .ref es, .ref o, .ref t])), (vs, .inl (T 0, 8, .inl (fun k => nI ((up yv p2 (oppN (yv p))) k)))), (es, .inl (T 1, 8, .inr (.inl (fun k => edge ((up yv p2 (oppN (yv p))) k))))), (ol, .inl (T 1, 1, .inr (.inl (fun k => (oS (1) ou) k))))]) := by
  refine Cm.of (by decide) (Nat.le_of_ble_eq_true rfl) ?_
  intro zp ze s zm args below zmeth zc hx hb hr hml hown hts hlocks htab A hA hP hK hD hS hZ hN ls hl
  have hl : lv_has ls 5 [(0, .ref x), (1, .int (nI p)), (2, .int (nI p2)), (3, .ref ol)] := hl
  refine lv_aload_n hx hb dL_opposite_0 rfl (lv_at hl 3 rfl) ?_
  refine lv_iconst (v := 0) hx hb dL_opposite_1 (by decide) ?_
  refine lv_aload_n hx hb dL_opposite_2 rfl (lv_at hl 0 rfl) ?_
  refine lv_iload_n hx hb dL_opposite_3 rfl (lv_at hl 1 rfl) ?_
  refine lv_iload_n hx hb dL_opposite_4 rfl (lv_at hl 2 rfl) ?_
  refine zh_v (T := T) hx hb hml hown hts k_L_51 (c_X7_opposite_ok l D T x vs es o t yv p hp p2 hp2 hy) ⟨by decide, by decide⟩ rfl hl.1 [.int 0, .ref ol] rfl (Nat.le_of_ble_eq_true rfl) dL_opposite_5 ⟨Nat.le_of_ble_eq_true rfl, Nat.le_of_ble_eq_true rfl⟩ hK hP hD hS hA (ci := 3) rfl rfl rfl [0, 1, 2] [3] (wr := [(ol, .inl (T 1, 1, .inr (.inl (fun k => ou k))))]) rfl rfl (by decide) (by decide) (by decide) [1, 2, 3, 0] (fun _ => [(x, .inr (3, [.ref vs, .ref es, .ref o, .ref t])), (vs, .inl (T 0, 8, .inl (fun k => nI ((up yv p2 (oppN (yv p))) k)))), (es, .inl (T 1, 8, .inr (.inl (fun k => edge ((up yv p2 (oppN (yv p))) k))))), (ol, .inl (T 1, 1, .inr (.inl (fun k => ou k))))]) (by decide) (fun _ => rfl) (fun _ H locs hP hD hS => ?_)
  have hP : va_P D zcl [(x, .inr (3, [.ref vs, .ref es, .ref o, .ref t])), (vs, .inl (T 0, 8, .inl (fun k => nI ((up yv p2 (oppN (yv p))) k)))), (es, .inl (T 1, 8, .inr (.inl (fun k => edge ((up yv p2 (oppN (yv p))) k))))), (ol, .inl (T 1, 1, .inr (.inl (fun k => ou k))))] H := hP
  have hD : va_D A [(x, .inr (3, [.ref vs, .ref es, .ref o, .ref t])), (vs, .inl (T 0, 8, .inl (fun k => nI ((up yv p2 (oppN (yv p))) k)))), (es, .inl (T 1, 8, .inr (.inl (fun k => edge ((up yv p2 (oppN (yv p))) k))))), (ol, .inl (T 1, 1, .inr (.inl (fun k => ou k))))] := hD
  refine zb_eq (tgt := 15) hx hb dL_opposite_8 (by decide) (fun h1 => ?_) (fun h1 => ?_)
  · exact absurd h1 (by decide)
  · refine lv_lconst (v := 1) hx hb dL_opposite_11 (by decide) ?_
    refine lv_goto (tgt := 16) hx hb dL_opposite_12 (by decide) ?_
    refine za_last hx hb hK hP hD hS 3 rfl 0 (rfl) (by decide) (by decide) (fun k => oS (1) ou k) (fun _ => rfl) dL_opposite_16 (fun H locs hP hD hS => ?_)
    have hP : va_P D zcl [(x, .inr (3, [.ref vs, .ref es, .ref o, .ref t])), (vs, .inl (T 0, 8, .inl (fun k => nI ((up yv p2 (oppN (yv p))) k)))), (es, .inl (T 1, 8, .inr (.inl (fun k => edge ((up yv p2 (oppN (yv p))) k))))), (ol, .inl (T 1, 1, .inr (.inl (fun k => oS (1) ou k))))] H := hP
    have hD : va_D A [(x, .inr (3, [.ref vs, .ref es, .ref o, .ref t])), (vs, .inl (T 0, 8, .inl (fun k => nI ((up yv p2 (oppN (yv p))) k)))), (es, .inl (T 1, 8, .inr (.inl (fun k => edge ((up yv p2 (oppN (yv p))) k))))), (ol, .inl (T 1, 1, .inr (.inl (fun k => oS (1) ou k))))] := hD
    refine lv_goto (tgt := 24) hx hb dL_opposite_17 (by decide) ?_
    refine lv_iconst (v := 0) hx hb dL_opposite_24 (by decide) ?_
    refine zc_more (cells' := 1) (slots' := 6) (Nat.le_of_ble_eq_true rfl) (Nat.le_of_ble_eq_true rfl) ?_
    exact zh_iret () hx hb hr hlocks dL_opposite_25 hP hD hS (rfl) (rfl)
set_option maxRecDepth 20000 in
theorem w_eightfold_ok (l : Launch) (hlf : l.stackTraces = false) (D : va_G) (T : Nat → ClassId) (x vs es o t : Nat) (yv : Nat → Nat) (ol : Nat) (ou : Nat → Int64) (p : Nat) (hp : p < 8) (p2 : Nat) (hp2 : p2 < 8) (he : eig (yv p) ≤ 65535) (hy : ∀ k, yv k < 262144) : Cm l yL_eightfold cL_eightfold 5 (some FieldType.int) [((0 : Nat), (17 : Nat), (20 : Nat), (13 : Nat)), ((0 : Nat), (17 : Nat), (24 : Nat), (42 : Nat))] 8 D T [.ref x, .int (nI p), .int (nI p2), .ref ol] [(x, .inr (3, [.ref vs, .ref es, .ref o, .ref t])), (vs, .inl (T 0, 8, .inl (fun k => nI (yv k)))), (es, .inl (T 1, 8, .inr (.inl (fun k => edge (yv k))))), (ol, .inl (T 1, 1, .inr (.inl (fun k => ou k))))] (some (.int 0)) (fun _ : Unit => [(x, .inr (3, [.ref vs, .ref es, .ref o, .ref t])), (vs, .inl (T 0, 8, .inl (fun k => nI ((up yv p2 (e8N (yv p))) k)))), (es, .inl (T 1, 8, .inr (.inl (fun k => edge ((up yv p2 (e8N (yv p))) k))))), (ol, .inl (T 1, 1, .inr (.inl (fun k => (oS (1) ou) k))))]) := by
  refine Cm.of (by decide) (Nat.le_of_ble_eq_true rfl) ?_
  intro zp ze s zm args below zmeth zc hx hb hr hml hown hts hlocks htab A hA hP hK hD hS hZ hN ls hl
  have hl : lv_has ls 5 [(0, .ref x), (1, .int (nI p)), (2, .int (nI p2)), (3, .ref ol)] := hl
  refine lv_aload_n hx hb dL_eightfold_0 rfl (lv_at hl 3 rfl) ?_
  refine lv_iconst (v := 0) hx hb dL_eightfold_1 (by decide) ?_
  refine lv_aload_n hx hb dL_eightfold_2 rfl (lv_at hl 0 rfl) ?_
  refine lv_iload_n hx hb dL_eightfold_3 rfl (lv_at hl 1 rfl) ?_
  refine lv_iload_n hx hb dL_eightfold_4 rfl (lv_at hl 2 rfl) ?_
  refine zh_v (T := T) hx hb hml hown hts k_L_55 (c_X7_eightfold_ok l D T x vs es o t yv p hp p2 hp2 he hy) ⟨by decide, by decide⟩ rfl hl.1 [.int 0, .ref ol] rfl (Nat.le_of_ble_eq_true rfl) dL_eightfold_5 ⟨Nat.le_of_ble_eq_true rfl, Nat.le_of_ble_eq_true rfl⟩ hK hP hD hS hA (ci := 3) rfl rfl rfl [0, 1, 2] [3] (wr := [(ol, .inl (T 1, 1, .inr (.inl (fun k => ou k))))]) rfl rfl (by decide) (by decide) (by decide) [1, 2, 3, 0] (fun _ => [(x, .inr (3, [.ref vs, .ref es, .ref o, .ref t])), (vs, .inl (T 0, 8, .inl (fun k => nI ((up yv p2 (e8N (yv p))) k)))), (es, .inl (T 1, 8, .inr (.inl (fun k => edge ((up yv p2 (e8N (yv p))) k))))), (ol, .inl (T 1, 1, .inr (.inl (fun k => ou k))))]) (by decide) (fun _ => rfl) (fun _ H locs hP hD hS => ?_)
  have hP : va_P D zcl [(x, .inr (3, [.ref vs, .ref es, .ref o, .ref t])), (vs, .inl (T 0, 8, .inl (fun k => nI ((up yv p2 (e8N (yv p))) k)))), (es, .inl (T 1, 8, .inr (.inl (fun k => edge ((up yv p2 (e8N (yv p))) k))))), (ol, .inl (T 1, 1, .inr (.inl (fun k => ou k))))] H := hP
  have hD : va_D A [(x, .inr (3, [.ref vs, .ref es, .ref o, .ref t])), (vs, .inl (T 0, 8, .inl (fun k => nI ((up yv p2 (e8N (yv p))) k)))), (es, .inl (T 1, 8, .inr (.inl (fun k => edge ((up yv p2 (e8N (yv p))) k))))), (ol, .inl (T 1, 1, .inr (.inl (fun k => ou k))))] := hD
  refine zb_eq (tgt := 15) hx hb dL_eightfold_8 (by decide) (fun h1 => ?_) (fun h1 => ?_)
  · exact absurd h1 (by decide)
  · refine lv_lconst (v := 1) hx hb dL_eightfold_11 (by decide) ?_
    refine lv_goto (tgt := 16) hx hb dL_eightfold_12 (by decide) ?_
    refine za_last hx hb hK hP hD hS 3 rfl 0 (rfl) (by decide) (by decide) (fun k => oS (1) ou k) (fun _ => rfl) dL_eightfold_16 (fun H locs hP hD hS => ?_)
    have hP : va_P D zcl [(x, .inr (3, [.ref vs, .ref es, .ref o, .ref t])), (vs, .inl (T 0, 8, .inl (fun k => nI ((up yv p2 (e8N (yv p))) k)))), (es, .inl (T 1, 8, .inr (.inl (fun k => edge ((up yv p2 (e8N (yv p))) k))))), (ol, .inl (T 1, 1, .inr (.inl (fun k => oS (1) ou k))))] H := hP
    have hD : va_D A [(x, .inr (3, [.ref vs, .ref es, .ref o, .ref t])), (vs, .inl (T 0, 8, .inl (fun k => nI ((up yv p2 (e8N (yv p))) k)))), (es, .inl (T 1, 8, .inr (.inl (fun k => edge ((up yv p2 (e8N (yv p))) k))))), (ol, .inl (T 1, 1, .inr (.inl (fun k => oS (1) ou k))))] := hD
    refine lv_goto (tgt := 28) hx hb dL_eightfold_17 (by decide) ?_
    refine lv_iconst (v := 0) hx hb dL_eightfold_28 (by decide) ?_
    refine zc_more (cells' := 1) (slots' := 6) (Nat.le_of_ble_eq_true rfl) (Nat.le_of_ble_eq_true rfl) ?_
    exact zh_iret () hx hb hr hlocks dL_eightfold_29 hP hD hS (rfl) (rfl)
set_option maxRecDepth 20000 in
theorem w_eighth_ok (l : Launch) (hlf : l.stackTraces = false) (D : va_G) (T : Nat → ClassId) (x vs es o t : Nat) (yv : Nat → Nat) (ol : Nat) (ou : Nat → Int64) (p : Nat) (hp : p < 8) (p2 : Nat) (hp2 : p2 < 8) (he : eig (yv p) % 8 = 0) (hy : ∀ k, yv k < 262144) : Cm l yL_eighth cL_eighth 5 (some FieldType.int) [((0 : Nat), (17 : Nat), (20 : Nat), (13 : Nat)), ((0 : Nat), (17 : Nat), (24 : Nat), (42 : Nat))] 8 D T [.ref x, .int (nI p), .int (nI p2), .ref ol] [(x, .inr (3, [.ref vs, .ref es, .ref o, .ref t])), (vs, .inl (T 0, 8, .inl (fun k => nI (yv k)))), (es, .inl (T 1, 8, .inr (.inl (fun k => edge (yv k))))), (ol, .inl (T 1, 1, .inr (.inl (fun k => ou k))))] (some (.int 0)) (fun _ : Unit => [(x, .inr (3, [.ref vs, .ref es, .ref o, .ref t])), (vs, .inl (T 0, 8, .inl (fun k => nI ((up yv p2 (d8N (yv p))) k)))), (es, .inl (T 1, 8, .inr (.inl (fun k => edge ((up yv p2 (d8N (yv p))) k))))), (ol, .inl (T 1, 1, .inr (.inl (fun k => (oS (1) ou) k))))]) := by
  refine Cm.of (by decide) (Nat.le_of_ble_eq_true rfl) ?_
  intro zp ze s zm args below zmeth zc hx hb hr hml hown hts hlocks htab A hA hP hK hD hS hZ hN ls hl
  have hl : lv_has ls 5 [(0, .ref x), (1, .int (nI p)), (2, .int (nI p2)), (3, .ref ol)] := hl
  refine lv_aload_n hx hb dL_eighth_0 rfl (lv_at hl 3 rfl) ?_
  refine lv_iconst (v := 0) hx hb dL_eighth_1 (by decide) ?_
  refine lv_aload_n hx hb dL_eighth_2 rfl (lv_at hl 0 rfl) ?_
  refine lv_iload_n hx hb dL_eighth_3 rfl (lv_at hl 1 rfl) ?_
  refine lv_iload_n hx hb dL_eighth_4 rfl (lv_at hl 2 rfl) ?_
  refine zh_v (T := T) hx hb hml hown hts k_L_58 (c_X7_eighth_ok l D T x vs es o t yv p hp p2 hp2 he hy) ⟨by decide, by decide⟩ rfl hl.1 [.int 0, .ref ol] rfl (Nat.le_of_ble_eq_true rfl) dL_eighth_5 ⟨Nat.le_of_ble_eq_true rfl, Nat.le_of_ble_eq_true rfl⟩ hK hP hD hS hA (ci := 3) rfl rfl rfl [0, 1, 2] [3] (wr := [(ol, .inl (T 1, 1, .inr (.inl (fun k => ou k))))]) rfl rfl (by decide) (by decide) (by decide) [1, 2, 3, 0] (fun _ => [(x, .inr (3, [.ref vs, .ref es, .ref o, .ref t])), (vs, .inl (T 0, 8, .inl (fun k => nI ((up yv p2 (d8N (yv p))) k)))), (es, .inl (T 1, 8, .inr (.inl (fun k => edge ((up yv p2 (d8N (yv p))) k))))), (ol, .inl (T 1, 1, .inr (.inl (fun k => ou k))))]) (by decide) (fun _ => rfl) (fun _ H locs hP hD hS => ?_)
  have hP : va_P D zcl [(x, .inr (3, [.ref vs, .ref es, .ref o, .ref t])), (vs, .inl (T 0, 8, .inl (fun k => nI ((up yv p2 (d8N (yv p))) k)))), (es, .inl (T 1, 8, .inr (.inl (fun k => edge ((up yv p2 (d8N (yv p))) k))))), (ol, .inl (T 1, 1, .inr (.inl (fun k => ou k))))] H := hP
  have hD : va_D A [(x, .inr (3, [.ref vs, .ref es, .ref o, .ref t])), (vs, .inl (T 0, 8, .inl (fun k => nI ((up yv p2 (d8N (yv p))) k)))), (es, .inl (T 1, 8, .inr (.inl (fun k => edge ((up yv p2 (d8N (yv p))) k))))), (ol, .inl (T 1, 1, .inr (.inl (fun k => ou k))))] := hD
  refine zb_eq (tgt := 15) hx hb dL_eighth_8 (by decide) (fun h1 => ?_) (fun h1 => ?_)
  · exact absurd h1 (by decide)
  · refine lv_lconst (v := 1) hx hb dL_eighth_11 (by decide) ?_
    refine lv_goto (tgt := 16) hx hb dL_eighth_12 (by decide) ?_
    refine za_last hx hb hK hP hD hS 3 rfl 0 (rfl) (by decide) (by decide) (fun k => oS (1) ou k) (fun _ => rfl) dL_eighth_16 (fun H locs hP hD hS => ?_)
    have hP : va_P D zcl [(x, .inr (3, [.ref vs, .ref es, .ref o, .ref t])), (vs, .inl (T 0, 8, .inl (fun k => nI ((up yv p2 (d8N (yv p))) k)))), (es, .inl (T 1, 8, .inr (.inl (fun k => edge ((up yv p2 (d8N (yv p))) k))))), (ol, .inl (T 1, 1, .inr (.inl (fun k => oS (1) ou k))))] H := hP
    have hD : va_D A [(x, .inr (3, [.ref vs, .ref es, .ref o, .ref t])), (vs, .inl (T 0, 8, .inl (fun k => nI ((up yv p2 (d8N (yv p))) k)))), (es, .inl (T 1, 8, .inr (.inl (fun k => edge ((up yv p2 (d8N (yv p))) k))))), (ol, .inl (T 1, 1, .inr (.inl (fun k => oS (1) ou k))))] := hD
    refine lv_goto (tgt := 28) hx hb dL_eighth_17 (by decide) ?_
    refine lv_iconst (v := 0) hx hb dL_eighth_28 (by decide) ?_
    refine zc_more (cells' := 1) (slots' := 6) (Nat.le_of_ble_eq_true rfl) (Nat.le_of_ble_eq_true rfl) ?_
    exact zh_iret () hx hb hr hlocks dL_eighth_29 hP hD hS (rfl) (rfl)
set_option maxRecDepth 20000 in
theorem w_add_ok (l : Launch) (hlf : l.stackTraces = false) (D : va_G) (T : Nat → ClassId) (x vs es o t : Nat) (yv : Nat → Nat) (ol : Nat) (ou : Nat → Int64) (p : Nat) (hp : p < 8) (p2 : Nat) (hp2 : p2 < 8) (p3 : Nat) (hp3 : p3 < 8) (hv1 : isB (yv p) = false) (hv2 : isB (yv p2) = false) (hc1 : 0 < yv p / 4) (hc2 : 0 < yv p2 / 4) (hr0 : rdC (eig (yv p) + eig (yv p2)) ≤ 65535) (hy : ∀ k, yv k < 262144) : Cm l yL_add cL_add 6 (some FieldType.int) [((0 : Nat), (19 : Nat), (22 : Nat), (13 : Nat)), ((0 : Nat), (19 : Nat), (26 : Nat), (15 : Nat)), ((0 : Nat), (19 : Nat), (30 : Nat), (42 : Nat))] 8 D T [.ref x, .int (nI p), .int (nI p2), .int (nI p3), .ref ol] [(x, .inr (3, [.ref vs, .ref es, .ref o, .ref t])), (vs, .inl (T 0, 8, .inl (fun k => nI (yv k)))), (es, .inl (T 1, 8, .inr (.inl (fun k => edge (yv k))))), (ol, .inl (T 1, 1, .inr (.inl (fun k => ou k))))] (some (.int 0)) (fun _ : Unit => [(x, .inr (3, [.ref vs, .ref es, .ref o, .ref t])), (vs, .inl (T 0, 8, .inl (fun k => nI ((up yv p3 (rdV (eig (yv p) + eig (yv p2)) false)) k)))), (es, .inl (T 1, 8, .inr (.inl (fun k => edge ((up yv p3 (rdV (eig (yv p) + eig (yv p2)) false)) k))))), (ol, .inl (T 1, 1, .inr (.inl (fun k => (oS (1) ou) k))))]) := by
  refine Cm.of (by decide) (Nat.le_of_ble_eq_true rfl) ?_
  intro zp ze s zm args below zmeth zc hx hb hr hml hown hts hlocks htab A hA hP hK hD hS hZ hN ls hl
  have hl : lv_has ls 6 [(0, .ref x), (1, .int (nI p)), (2, .int (nI p2)), (3, .int (nI p3)), (4, .ref ol)] := hl
  refine lv_aload hx hb dL_add_0 (lv_at hl 4 rfl) ?_
  refine lv_iconst (v := 0) hx hb dL_add_2 (by decide) ?_
  refine lv_aload_n hx hb dL_add_3 rfl (lv_at hl 0 rfl) ?_
  refine lv_iload_n hx hb dL_add_4 rfl (lv_at hl 1 rfl) ?_
  refine lv_iload_n hx hb dL_add_5 rfl (lv_at hl 2 rfl) ?_
  refine lv_iload_n hx hb dL_add_6 rfl (lv_at hl 3 rfl) ?_
  refine zh_v (T := T) hx hb hml hown hts k_L_68 (c_X7_add_ok l D T x vs es o t yv p hp p2 hp2 p3 hp3 hv1 hv2 hc1 hc2 hr0 hy) ⟨by decide, by decide⟩ rfl hl.1 [.int 0, .ref ol] rfl (Nat.le_of_ble_eq_true rfl) dL_add_7 ⟨Nat.le_of_ble_eq_true rfl, Nat.le_of_ble_eq_true rfl⟩ hK hP hD hS hA (ci := 3) rfl rfl rfl [0, 1, 2] [3] (wr := [(ol, .inl (T 1, 1, .inr (.inl (fun k => ou k))))]) rfl rfl (by decide) (by decide) (by decide) [1, 2, 3, 0] (fun _ => [(x, .inr (3, [.ref vs, .ref es, .ref o, .ref t])), (vs, .inl (T 0, 8, .inl (fun k => nI ((up yv p3 (rdV (eig (yv p) + eig (yv p2)) false)) k)))), (es, .inl (T 1, 8, .inr (.inl (fun k => edge ((up yv p3 (rdV (eig (yv p) + eig (yv p2)) false)) k))))), (ol, .inl (T 1, 1, .inr (.inl (fun k => ou k))))]) (by decide) (fun _ => rfl) (fun _ H locs hP hD hS => ?_)
  have hP : va_P D zcl [(x, .inr (3, [.ref vs, .ref es, .ref o, .ref t])), (vs, .inl (T 0, 8, .inl (fun k => nI ((up yv p3 (rdV (eig (yv p) + eig (yv p2)) false)) k)))), (es, .inl (T 1, 8, .inr (.inl (fun k => edge ((up yv p3 (rdV (eig (yv p) + eig (yv p2)) false)) k))))), (ol, .inl (T 1, 1, .inr (.inl (fun k => ou k))))] H := hP
  have hD : va_D A [(x, .inr (3, [.ref vs, .ref es, .ref o, .ref t])), (vs, .inl (T 0, 8, .inl (fun k => nI ((up yv p3 (rdV (eig (yv p) + eig (yv p2)) false)) k)))), (es, .inl (T 1, 8, .inr (.inl (fun k => edge ((up yv p3 (rdV (eig (yv p) + eig (yv p2)) false)) k))))), (ol, .inl (T 1, 1, .inr (.inl (fun k => ou k))))] := hD
  refine zb_eq (tgt := 17) hx hb dL_add_10 (by decide) (fun h1 => ?_) (fun h1 => ?_)
  · exact absurd h1 (by decide)
  · refine lv_lconst (v := 1) hx hb dL_add_13 (by decide) ?_
    refine lv_goto (tgt := 18) hx hb dL_add_14 (by decide) ?_
    refine za_last hx hb hK hP hD hS 3 rfl 0 (rfl) (by decide) (by decide) (fun k => oS (1) ou k) (fun _ => rfl) dL_add_18 (fun H locs hP hD hS => ?_)
    have hP : va_P D zcl [(x, .inr (3, [.ref vs, .ref es, .ref o, .ref t])), (vs, .inl (T 0, 8, .inl (fun k => nI ((up yv p3 (rdV (eig (yv p) + eig (yv p2)) false)) k)))), (es, .inl (T 1, 8, .inr (.inl (fun k => edge ((up yv p3 (rdV (eig (yv p) + eig (yv p2)) false)) k))))), (ol, .inl (T 1, 1, .inr (.inl (fun k => oS (1) ou k))))] H := hP
    have hD : va_D A [(x, .inr (3, [.ref vs, .ref es, .ref o, .ref t])), (vs, .inl (T 0, 8, .inl (fun k => nI ((up yv p3 (rdV (eig (yv p) + eig (yv p2)) false)) k)))), (es, .inl (T 1, 8, .inr (.inl (fun k => edge ((up yv p3 (rdV (eig (yv p) + eig (yv p2)) false)) k))))), (ol, .inl (T 1, 1, .inr (.inl (fun k => oS (1) ou k))))] := hD
    refine lv_goto (tgt := 34) hx hb dL_add_19 (by decide) ?_
    refine lv_iconst (v := 0) hx hb dL_add_34 (by decide) ?_
    refine zc_more (cells' := 1) (slots' := 6) (Nat.le_of_ble_eq_true rfl) (Nat.le_of_ble_eq_true rfl) ?_
    exact zh_iret () hx hb hr hlocks dL_add_35 hP hD hS (rfl) (rfl)
set_option maxRecDepth 20000 in
theorem w_volume_no (l : Launch) (hlf : l.stackTraces = false) (D : va_G) (T : Nat → ClassId) (x vs es o t : Nat) (yv : Nat → Nat) (ol : Nat) (ou : Nat → Int64) (x0 : Int32) (hx0 : m_X8_is x0 = false) : Cm l yL_volume cL_volume 4 (some FieldType.int) [((0 : Nat), (9 : Nat), (12 : Nat), (13 : Nat))] 8 D T [.ref x, .int x0, .ref ol] [(x, .inr (3, [.ref vs, .ref es, .ref o, .ref t])), (vs, .inl (T 0, 8, .inl (fun k => nI (yv k)))), (es, .inl (T 1, 8, .inr (.inl (fun k => edge (yv k))))), (ol, .inl (T 1, 1, .inr (.inl (fun k => ou k))))] (some (.int 1)) (fun _ : Unit => [(x, .inr (3, [.ref vs, .ref es, .ref o, .ref t])), (vs, .inl (T 0, 8, .inl (fun k => nI (yv k)))), (es, .inl (T 1, 8, .inr (.inl (fun k => edge (yv k))))), (ol, .inl (T 1, 1, .inr (.inl (fun k => ou k))))]) := by
  refine Cm.of (by decide) (Nat.le_of_ble_eq_true rfl) ?_
  intro zp ze s zm args below zmeth zc hx hb hr hml hown hts hlocks htab A hA hP hK hD hS hZ hN ls hl
  have hl : lv_has ls 4 [(0, .ref x), (1, .int x0), (2, .ref ol)] := hl
  refine lv_aload_n hx hb dL_volume_0 rfl (lv_at hl 2 rfl) ?_
  refine lv_iconst (v := 0) hx hb dL_volume_1 (by decide) ?_
  refine lv_aload_n hx hb dL_volume_2 rfl (lv_at hl 0 rfl) ?_
  refine lv_iload_n hx hb dL_volume_3 rfl (lv_at hl 1 rfl) ?_
  refine zt_v (T := T) hx hb hml hown hts k_L_17 (t_X7_volume_no l hlf D T x vs es o t yv x0 hx0) ⟨by decide, by decide⟩ rfl hl.1 [.int 0, .ref ol] rfl (Nat.le_of_ble_eq_true rfl) dL_volume_4 ⟨Nat.le_of_ble_eq_true rfl, Nat.le_of_ble_eq_true rfl⟩ hK hP hD hS hA hZ (ci := 3) rfl rfl rfl [0, 1, 2] [3] (wr := [(ol, .inl (T 1, 1, .inr (.inl (fun k => ou k))))]) rfl rfl (by decide) (by decide) (by decide) [1, 2, 3, 0] (by decide) rfl (fun ce q9 H locs hP hD hS hce hcv hcl => ?_)
  refine zc_catch (hh := [((0 : Nat), (9 : Nat), (12 : Nat), (13 : Nat))]) (E := "java/lang/IndexOutOfBoundsException") hown hts htab hZ hN hce hcv hcl [] (⟨0, 9, 12, 13⟩ : ExceptionTableEntry) [] rfl (fun z hz => nomatch hz) (by decide) (by decide) u336 cs_425 ?_
  have hP : va_P D zcl [(x, .inr (3, [.ref vs, .ref es, .ref o, .ref t])), (vs, .inl (T 0, 8, .inl (fun k => nI (yv k)))), (es, .inl (T 1, 8, .inr (.inl (fun k => edge (yv k))))), (ol, .inl (T 1, 1, .inr (.inl (fun k => ou k))))] H := hP
  have hD : va_D A [(x, .inr (3, [.ref vs, .ref es, .ref o, .ref t])), (vs, .inl (T 0, 8, .inl (fun k => nI (yv k)))), (es, .inl (T 1, 8, .inr (.inl (fun k => edge (yv k))))), (ol, .inl (T 1, 1, .inr (.inl (fun k => ou k))))] := hD
  refine lv_astore_n (lv' := [(3, .ref q9), (0, .ref x), (1, .int x0), (2, .ref ol)]) hx hb dL_volume_12 rfl hl (by decide) rfl (fun ls hl => ?_)
  refine lv_iconst (v := 1) hx hb dL_volume_13 (by decide) ?_
  refine zc_more (cells' := 1) (slots' := 6) (Nat.le_of_ble_eq_true rfl) (Nat.le_of_ble_eq_true rfl) ?_
  exact zh_iret () hx hb hr hlocks dL_volume_14 hP hD hS (rfl) (rfl)
set_option maxRecDepth 20000 in
theorem w_kind_no (l : Launch) (hlf : l.stackTraces = false) (D : va_G) (T : Nat → ClassId) (x vs es o t : Nat) (yv : Nat → Nat) (ol : Nat) (ou : Nat → Int64) (x0 : Int32) (hx0 : m_X8_is x0 = false) : Cm l yL_kind cL_kind 4 (some FieldType.int) [((0 : Nat), (9 : Nat), (12 : Nat), (13 : Nat))] 8 D T [.ref x, .int x0, .ref ol] [(x, .inr (3, [.ref vs, .ref es, .ref o, .ref t])), (vs, .inl (T 0, 8, .inl (fun k => nI (yv k)))), (es, .inl (T 1, 8, .inr (.inl (fun k => edge (yv k))))), (ol, .inl (T 1, 1, .inr (.inl (fun k => ou k))))] (some (.int 1)) (fun _ : Unit => [(x, .inr (3, [.ref vs, .ref es, .ref o, .ref t])), (vs, .inl (T 0, 8, .inl (fun k => nI (yv k)))), (es, .inl (T 1, 8, .inr (.inl (fun k => edge (yv k))))), (ol, .inl (T 1, 1, .inr (.inl (fun k => ou k))))]) := by
  refine Cm.of (by decide) (Nat.le_of_ble_eq_true rfl) ?_
  intro zp ze s zm args below zmeth zc hx hb hr hml hown hts hlocks htab A hA hP hK hD hS hZ hN ls hl
  have hl : lv_has ls 4 [(0, .ref x), (1, .int x0), (2, .ref ol)] := hl
  refine lv_aload_n hx hb dL_kind_0 rfl (lv_at hl 2 rfl) ?_
  refine lv_iconst (v := 0) hx hb dL_kind_1 (by decide) ?_
  refine lv_aload_n hx hb dL_kind_2 rfl (lv_at hl 0 rfl) ?_
  refine lv_iload_n hx hb dL_kind_3 rfl (lv_at hl 1 rfl) ?_
  refine zt_v (T := T) hx hb hml hown hts k_L_21 (t_X7_kind_no l hlf D T x vs es o t yv x0 hx0) ⟨by decide, by decide⟩ rfl hl.1 [.int 0, .ref ol] rfl (Nat.le_of_ble_eq_true rfl) dL_kind_4 ⟨Nat.le_of_ble_eq_true rfl, Nat.le_of_ble_eq_true rfl⟩ hK hP hD hS hA hZ (ci := 3) rfl rfl rfl [0, 1, 2] [3] (wr := [(ol, .inl (T 1, 1, .inr (.inl (fun k => ou k))))]) rfl rfl (by decide) (by decide) (by decide) [1, 2, 3, 0] (by decide) rfl (fun ce q9 H locs hP hD hS hce hcv hcl => ?_)
  refine zc_catch (hh := [((0 : Nat), (9 : Nat), (12 : Nat), (13 : Nat))]) (E := "java/lang/IndexOutOfBoundsException") hown hts htab hZ hN hce hcv hcl [] (⟨0, 9, 12, 13⟩ : ExceptionTableEntry) [] rfl (fun z hz => nomatch hz) (by decide) (by decide) u336 cs_425 ?_
  have hP : va_P D zcl [(x, .inr (3, [.ref vs, .ref es, .ref o, .ref t])), (vs, .inl (T 0, 8, .inl (fun k => nI (yv k)))), (es, .inl (T 1, 8, .inr (.inl (fun k => edge (yv k))))), (ol, .inl (T 1, 1, .inr (.inl (fun k => ou k))))] H := hP
  have hD : va_D A [(x, .inr (3, [.ref vs, .ref es, .ref o, .ref t])), (vs, .inl (T 0, 8, .inl (fun k => nI (yv k)))), (es, .inl (T 1, 8, .inr (.inl (fun k => edge (yv k))))), (ol, .inl (T 1, 1, .inr (.inl (fun k => ou k))))] := hD
  refine lv_astore_n (lv' := [(3, .ref q9), (0, .ref x), (1, .int x0), (2, .ref ol)]) hx hb dL_kind_12 rfl hl (by decide) rfl (fun ls hl => ?_)
  refine lv_iconst (v := 1) hx hb dL_kind_13 (by decide) ?_
  refine zc_more (cells' := 1) (slots' := 6) (Nat.le_of_ble_eq_true rfl) (Nat.le_of_ble_eq_true rfl) ?_
  exact zh_iret () hx hb hr hlocks dL_kind_14 hP hD hS (rfl) (rfl)
set_option maxRecDepth 20000 in
theorem w_fine_no (l : Launch) (hlf : l.stackTraces = false) (D : va_G) (T : Nat → ClassId) (x vs es o t : Nat) (yv : Nat → Nat) (ol : Nat) (ou : Nat → Int64) (x0 : Int32) (hx0 : m_X8_is x0 = false) : Cm l yL_fine cL_fine 4 (some FieldType.int) [((0 : Nat), (9 : Nat), (12 : Nat), (13 : Nat))] 8 D T [.ref x, .int x0, .ref ol] [(x, .inr (3, [.ref vs, .ref es, .ref o, .ref t])), (vs, .inl (T 0, 8, .inl (fun k => nI (yv k)))), (es, .inl (T 1, 8, .inr (.inl (fun k => edge (yv k))))), (ol, .inl (T 1, 1, .inr (.inl (fun k => ou k))))] (some (.int 1)) (fun _ : Unit => [(x, .inr (3, [.ref vs, .ref es, .ref o, .ref t])), (vs, .inl (T 0, 8, .inl (fun k => nI (yv k)))), (es, .inl (T 1, 8, .inr (.inl (fun k => edge (yv k))))), (ol, .inl (T 1, 1, .inr (.inl (fun k => ou k))))]) := by
  refine Cm.of (by decide) (Nat.le_of_ble_eq_true rfl) ?_
  intro zp ze s zm args below zmeth zc hx hb hr hml hown hts hlocks htab A hA hP hK hD hS hZ hN ls hl
  have hl : lv_has ls 4 [(0, .ref x), (1, .int x0), (2, .ref ol)] := hl
  refine lv_aload_n hx hb dL_fine_0 rfl (lv_at hl 2 rfl) ?_
  refine lv_iconst (v := 0) hx hb dL_fine_1 (by decide) ?_
  refine lv_aload_n hx hb dL_fine_2 rfl (lv_at hl 0 rfl) ?_
  refine lv_iload_n hx hb dL_fine_3 rfl (lv_at hl 1 rfl) ?_
  refine zt_v (T := T) hx hb hml hown hts k_L_24 (t_X7_fine_no l hlf D T x vs es o t yv x0 hx0) ⟨by decide, by decide⟩ rfl hl.1 [.int 0, .ref ol] rfl (Nat.le_of_ble_eq_true rfl) dL_fine_4 ⟨Nat.le_of_ble_eq_true rfl, Nat.le_of_ble_eq_true rfl⟩ hK hP hD hS hA hZ (ci := 3) rfl rfl rfl [0, 1, 2] [3] (wr := [(ol, .inl (T 1, 1, .inr (.inl (fun k => ou k))))]) rfl rfl (by decide) (by decide) (by decide) [1, 2, 3, 0] (by decide) rfl (fun ce q9 H locs hP hD hS hce hcv hcl => ?_)
  refine zc_catch (hh := [((0 : Nat), (9 : Nat), (12 : Nat), (13 : Nat))]) (E := "java/lang/IndexOutOfBoundsException") hown hts htab hZ hN hce hcv hcl [] (⟨0, 9, 12, 13⟩ : ExceptionTableEntry) [] rfl (fun z hz => nomatch hz) (by decide) (by decide) u336 cs_425 ?_
  have hP : va_P D zcl [(x, .inr (3, [.ref vs, .ref es, .ref o, .ref t])), (vs, .inl (T 0, 8, .inl (fun k => nI (yv k)))), (es, .inl (T 1, 8, .inr (.inl (fun k => edge (yv k))))), (ol, .inl (T 1, 1, .inr (.inl (fun k => ou k))))] H := hP
  have hD : va_D A [(x, .inr (3, [.ref vs, .ref es, .ref o, .ref t])), (vs, .inl (T 0, 8, .inl (fun k => nI (yv k)))), (es, .inl (T 1, 8, .inr (.inl (fun k => edge (yv k))))), (ol, .inl (T 1, 1, .inr (.inl (fun k => ou k))))] := hD
  refine lv_astore_n (lv' := [(3, .ref q9), (0, .ref x), (1, .int x0), (2, .ref ol)]) hx hb dL_fine_12 rfl hl (by decide) rfl (fun ls hl => ?_)
  refine lv_iconst (v := 1) hx hb dL_fine_13 (by decide) ?_
  refine zc_more (cells' := 1) (slots' := 6) (Nat.le_of_ble_eq_true rfl) (Nat.le_of_ble_eq_true rfl) ?_
  exact zh_iret () hx hb hr hlocks dL_fine_14 hP hD hS (rfl) (rfl)
set_option maxRecDepth 20000 in
theorem w_whole_no (l : Launch) (hlf : l.stackTraces = false) (D : va_G) (T : Nat → ClassId) (x vs es o t : Nat) (yv : Nat → Nat) (ol : Nat) (ou : Nat → Int64) (x0 : Int32) (hx0 : m_X8_is x0 = false) : Cm l yL_whole cL_whole 4 (some FieldType.int) [((0 : Nat), (9 : Nat), (12 : Nat), (13 : Nat))] 8 D T [.ref x, .int x0, .ref ol] [(x, .inr (3, [.ref vs, .ref es, .ref o, .ref t])), (vs, .inl (T 0, 8, .inl (fun k => nI (yv k)))), (es, .inl (T 1, 8, .inr (.inl (fun k => edge (yv k))))), (ol, .inl (T 1, 1, .inr (.inl (fun k => ou k))))] (some (.int 1)) (fun _ : Unit => [(x, .inr (3, [.ref vs, .ref es, .ref o, .ref t])), (vs, .inl (T 0, 8, .inl (fun k => nI (yv k)))), (es, .inl (T 1, 8, .inr (.inl (fun k => edge (yv k))))), (ol, .inl (T 1, 1, .inr (.inl (fun k => ou k))))]) := by
  refine Cm.of (by decide) (Nat.le_of_ble_eq_true rfl) ?_
  intro zp ze s zm args below zmeth zc hx hb hr hml hown hts hlocks htab A hA hP hK hD hS hZ hN ls hl
  have hl : lv_has ls 4 [(0, .ref x), (1, .int x0), (2, .ref ol)] := hl
  refine lv_aload_n hx hb dL_whole_0 rfl (lv_at hl 2 rfl) ?_
  refine lv_iconst (v := 0) hx hb dL_whole_1 (by decide) ?_
  refine lv_aload_n hx hb dL_whole_2 rfl (lv_at hl 0 rfl) ?_
  refine lv_iload_n hx hb dL_whole_3 rfl (lv_at hl 1 rfl) ?_
  refine zt_v (T := T) hx hb hml hown hts k_L_27 (t_X7_whole_no l hlf D T x vs es o t yv x0 hx0) ⟨by decide, by decide⟩ rfl hl.1 [.int 0, .ref ol] rfl (Nat.le_of_ble_eq_true rfl) dL_whole_4 ⟨Nat.le_of_ble_eq_true rfl, Nat.le_of_ble_eq_true rfl⟩ hK hP hD hS hA hZ (ci := 3) rfl rfl rfl [0, 1, 2] [3] (wr := [(ol, .inl (T 1, 1, .inr (.inl (fun k => ou k))))]) rfl rfl (by decide) (by decide) (by decide) [1, 2, 3, 0] (by decide) rfl (fun ce q9 H locs hP hD hS hce hcv hcl => ?_)
  refine zc_catch (hh := [((0 : Nat), (9 : Nat), (12 : Nat), (13 : Nat))]) (E := "java/lang/IndexOutOfBoundsException") hown hts htab hZ hN hce hcv hcl [] (⟨0, 9, 12, 13⟩ : ExceptionTableEntry) [] rfl (fun z hz => nomatch hz) (by decide) (by decide) u336 cs_425 ?_
  have hP : va_P D zcl [(x, .inr (3, [.ref vs, .ref es, .ref o, .ref t])), (vs, .inl (T 0, 8, .inl (fun k => nI (yv k)))), (es, .inl (T 1, 8, .inr (.inl (fun k => edge (yv k))))), (ol, .inl (T 1, 1, .inr (.inl (fun k => ou k))))] H := hP
  have hD : va_D A [(x, .inr (3, [.ref vs, .ref es, .ref o, .ref t])), (vs, .inl (T 0, 8, .inl (fun k => nI (yv k)))), (es, .inl (T 1, 8, .inr (.inl (fun k => edge (yv k))))), (ol, .inl (T 1, 1, .inr (.inl (fun k => ou k))))] := hD
  refine lv_astore_n (lv' := [(3, .ref q9), (0, .ref x), (1, .int x0), (2, .ref ol)]) hx hb dL_whole_12 rfl hl (by decide) rfl (fun ls hl => ?_)
  refine lv_iconst (v := 1) hx hb dL_whole_13 (by decide) ?_
  refine zc_more (cells' := 1) (slots' := 6) (Nat.le_of_ble_eq_true rfl) (Nat.le_of_ble_eq_true rfl) ?_
  exact zh_iret () hx hb hr hlocks dL_whole_14 hP hD hS (rfl) (rfl)
set_option maxRecDepth 20000 in
theorem w_isExact_no (l : Launch) (hlf : l.stackTraces = false) (D : va_G) (T : Nat → ClassId) (x vs es o t : Nat) (yv : Nat → Nat) (ol : Nat) (ou : Nat → Int64) (x0 : Int32) (hx0 : m_X8_is x0 = false) : Cm l yL_isExact cL_isExact 4 (some FieldType.int) [((0 : Nat), (16 : Nat), (19 : Nat), (13 : Nat))] 8 D T [.ref x, .int x0, .ref ol] [(x, .inr (3, [.ref vs, .ref es, .ref o, .ref t])), (vs, .inl (T 0, 8, .inl (fun k => nI (yv k)))), (es, .inl (T 1, 8, .inr (.inl (fun k => edge (yv k))))), (ol, .inl (T 1, 1, .inr (.inl (fun k => ou k))))] (some (.int 1)) (fun _ : Unit => [(x, .inr (3, [.ref vs, .ref es, .ref o, .ref t])), (vs, .inl (T 0, 8, .inl (fun k => nI (yv k)))), (es, .inl (T 1, 8, .inr (.inl (fun k => edge (yv k))))), (ol, .inl (T 1, 1, .inr (.inl (fun k => ou k))))]) := by
  refine Cm.of (by decide) (Nat.le_of_ble_eq_true rfl) ?_
  intro zp ze s zm args below zmeth zc hx hb hr hml hown hts hlocks htab A hA hP hK hD hS hZ hN ls hl
  have hl : lv_has ls 4 [(0, .ref x), (1, .int x0), (2, .ref ol)] := hl
  refine lv_aload_n hx hb dL_isExact_0 rfl (lv_at hl 2 rfl) ?_
  refine lv_iconst (v := 0) hx hb dL_isExact_1 (by decide) ?_
  refine lv_aload_n hx hb dL_isExact_2 rfl (lv_at hl 0 rfl) ?_
  refine lv_iload_n hx hb dL_isExact_3 rfl (lv_at hl 1 rfl) ?_
  refine zt_v (T := T) hx hb hml hown hts k_L_34 (t_X7_isExact_no l hlf D T x vs es o t yv x0 hx0) ⟨by decide, by decide⟩ rfl hl.1 [.int 0, .ref ol] rfl (Nat.le_of_ble_eq_true rfl) dL_isExact_4 ⟨Nat.le_of_ble_eq_true rfl, Nat.le_of_ble_eq_true rfl⟩ hK hP hD hS hA hZ (ci := 3) rfl rfl rfl [0, 1, 2] [3] (wr := [(ol, .inl (T 1, 1, .inr (.inl (fun k => ou k))))]) rfl rfl (by decide) (by decide) (by decide) [1, 2, 3, 0] (by decide) rfl (fun ce q9 H locs hP hD hS hce hcv hcl => ?_)
  refine zc_catch (hh := [((0 : Nat), (16 : Nat), (19 : Nat), (13 : Nat))]) (E := "java/lang/IndexOutOfBoundsException") hown hts htab hZ hN hce hcv hcl [] (⟨0, 16, 19, 13⟩ : ExceptionTableEntry) [] rfl (fun z hz => nomatch hz) (by decide) (by decide) u336 cs_425 ?_
  have hP : va_P D zcl [(x, .inr (3, [.ref vs, .ref es, .ref o, .ref t])), (vs, .inl (T 0, 8, .inl (fun k => nI (yv k)))), (es, .inl (T 1, 8, .inr (.inl (fun k => edge (yv k))))), (ol, .inl (T 1, 1, .inr (.inl (fun k => ou k))))] H := hP
  have hD : va_D A [(x, .inr (3, [.ref vs, .ref es, .ref o, .ref t])), (vs, .inl (T 0, 8, .inl (fun k => nI (yv k)))), (es, .inl (T 1, 8, .inr (.inl (fun k => edge (yv k))))), (ol, .inl (T 1, 1, .inr (.inl (fun k => ou k))))] := hD
  refine lv_astore_n (lv' := [(3, .ref q9), (0, .ref x), (1, .int x0), (2, .ref ol)]) hx hb dL_isExact_19 rfl hl (by decide) rfl (fun ls hl => ?_)
  refine lv_iconst (v := 1) hx hb dL_isExact_20 (by decide) ?_
  refine zc_more (cells' := 1) (slots' := 6) (Nat.le_of_ble_eq_true rfl) (Nat.le_of_ble_eq_true rfl) ?_
  exact zh_iret () hx hb hr hlocks dL_isExact_21 hP hD hS (rfl) (rfl)
set_option maxRecDepth 20000 in
theorem w_bits_no (l : Launch) (hlf : l.stackTraces = false) (D : va_G) (T : Nat → ClassId) (x vs es o t : Nat) (yv : Nat → Nat) (ol : Nat) (ou : Nat → Int64) (x0 : Int32) (hx0 : m_X8_is x0 = false) : Cm l yL_bits cL_bits 4 (some FieldType.int) [((0 : Nat), (8 : Nat), (11 : Nat), (13 : Nat)), ((0 : Nat), (8 : Nat), (14 : Nat), (42 : Nat))] 8 D T [.ref x, .int x0, .ref ol] [(x, .inr (3, [.ref vs, .ref es, .ref o, .ref t])), (vs, .inl (T 0, 8, .inl (fun k => nI (yv k)))), (es, .inl (T 1, 8, .inr (.inl (fun k => edge (yv k))))), (ol, .inl (T 1, 1, .inr (.inl (fun k => ou k))))] (some (.int 1)) (fun _ : Unit => [(x, .inr (3, [.ref vs, .ref es, .ref o, .ref t])), (vs, .inl (T 0, 8, .inl (fun k => nI (yv k)))), (es, .inl (T 1, 8, .inr (.inl (fun k => edge (yv k))))), (ol, .inl (T 1, 1, .inr (.inl (fun k => ou k))))]) := by
  refine Cm.of (by decide) (Nat.le_of_ble_eq_true rfl) ?_
  intro zp ze s zm args below zmeth zc hx hb hr hml hown hts hlocks htab A hA hP hK hD hS hZ hN ls hl
  have hl : lv_has ls 4 [(0, .ref x), (1, .int x0), (2, .ref ol)] := hl
  refine lv_aload_n hx hb dL_bits_0 rfl (lv_at hl 2 rfl) ?_
  refine lv_iconst (v := 0) hx hb dL_bits_1 (by decide) ?_
  refine lv_aload_n hx hb dL_bits_2 rfl (lv_at hl 0 rfl) ?_
  refine lv_iload_n hx hb dL_bits_3 rfl (lv_at hl 1 rfl) ?_
  refine zt_v (T := T) hx hb hml hown hts k_L_38 (t_X7_bits_no l hlf D T x vs es o t yv x0 hx0) ⟨by decide, by decide⟩ rfl hl.1 [.int 0, .ref ol] rfl (Nat.le_of_ble_eq_true rfl) dL_bits_4 ⟨Nat.le_of_ble_eq_true rfl, Nat.le_of_ble_eq_true rfl⟩ hK hP hD hS hA hZ (ci := 3) rfl rfl rfl [0, 1, 2] [3] (wr := [(ol, .inl (T 1, 1, .inr (.inl (fun k => ou k))))]) rfl rfl (by decide) (by decide) (by decide) [1, 2, 3, 0] (by decide) rfl (fun ce q9 H locs hP hD hS hce hcv hcl => ?_)
  refine zc_catch (hh := [((0 : Nat), (8 : Nat), (11 : Nat), (13 : Nat)), ((0 : Nat), (8 : Nat), (14 : Nat), (42 : Nat))]) (E := "java/lang/IndexOutOfBoundsException") hown hts htab hZ hN hce hcv hcl [] (⟨0, 8, 11, 13⟩ : ExceptionTableEntry) [(⟨0, 8, 14, 42⟩ : ExceptionTableEntry)] rfl (fun z hz => nomatch hz) (by decide) (by decide) u336 cs_425 ?_
  have hP : va_P D zcl [(x, .inr (3, [.ref vs, .ref es, .ref o, .ref t])), (vs, .inl (T 0, 8, .inl (fun k => nI (yv k)))), (es, .inl (T 1, 8, .inr (.inl (fun k => edge (yv k))))), (ol, .inl (T 1, 1, .inr (.inl (fun k => ou k))))] H := hP
  have hD : va_D A [(x, .inr (3, [.ref vs, .ref es, .ref o, .ref t])), (vs, .inl (T 0, 8, .inl (fun k => nI (yv k)))), (es, .inl (T 1, 8, .inr (.inl (fun k => edge (yv k))))), (ol, .inl (T 1, 1, .inr (.inl (fun k => ou k))))] := hD
  refine lv_astore_n (lv' := [(3, .ref q9), (0, .ref x), (1, .int x0), (2, .ref ol)]) hx hb dL_bits_11 rfl hl (by decide) rfl (fun ls hl => ?_)
  refine lv_iconst (v := 1) hx hb dL_bits_12 (by decide) ?_
  refine zc_more (cells' := 1) (slots' := 6) (Nat.le_of_ble_eq_true rfl) (Nat.le_of_ble_eq_true rfl) ?_
  exact zh_iret () hx hb hr hlocks dL_bits_13 hP hD hS (rfl) (rfl)
set_option maxRecDepth 20000 in
theorem w_grow_no (l : Launch) (hlf : l.stackTraces = false) (D : va_G) (T : Nat → ClassId) (x vs es o t : Nat) (yv : Nat → Nat) (ol : Nat) (ou : Nat → Int64) (x0 : Int32) (hx0 : m_X8_is x0 = false) (y0 : Int32) : Cm l yL_grow cL_grow 5 (some FieldType.int) [((0 : Nat), (10 : Nat), (13 : Nat), (13 : Nat)), ((0 : Nat), (10 : Nat), (17 : Nat), (42 : Nat))] 8 D T [.ref x, .int x0, .int y0, .ref ol] [(x, .inr (3, [.ref vs, .ref es, .ref o, .ref t])), (vs, .inl (T 0, 8, .inl (fun k => nI (yv k)))), (es, .inl (T 1, 8, .inr (.inl (fun k => edge (yv k))))), (ol, .inl (T 1, 1, .inr (.inl (fun k => ou k))))] (some (.int 1)) (fun _ : Unit => [(x, .inr (3, [.ref vs, .ref es, .ref o, .ref t])), (vs, .inl (T 0, 8, .inl (fun k => nI (yv k)))), (es, .inl (T 1, 8, .inr (.inl (fun k => edge (yv k))))), (ol, .inl (T 1, 1, .inr (.inl (fun k => ou k))))]) := by
  refine Cm.of (by decide) (Nat.le_of_ble_eq_true rfl) ?_
  intro zp ze s zm args below zmeth zc hx hb hr hml hown hts hlocks htab A hA hP hK hD hS hZ hN ls hl
  have hl : lv_has ls 5 [(0, .ref x), (1, .int x0), (2, .int y0), (3, .ref ol)] := hl
  refine lv_aload_n hx hb dL_grow_0 rfl (lv_at hl 3 rfl) ?_
  refine lv_iconst (v := 0) hx hb dL_grow_1 (by decide) ?_
  refine lv_aload_n hx hb dL_grow_2 rfl (lv_at hl 0 rfl) ?_
  refine lv_iload_n hx hb dL_grow_3 rfl (lv_at hl 1 rfl) ?_
  refine lv_iload_n hx hb dL_grow_4 rfl (lv_at hl 2 rfl) ?_
  refine zt_v (T := T) hx hb hml hown hts k_L_48 (t_X7_grow_no l hlf D T x vs es o t yv x0 hx0 y0) ⟨by decide, by decide⟩ rfl hl.1 [.int 0, .ref ol] rfl (Nat.le_of_ble_eq_true rfl) dL_grow_5 ⟨Nat.le_of_ble_eq_true rfl, Nat.le_of_ble_eq_true rfl⟩ hK hP hD hS hA hZ (ci := 3) rfl rfl rfl [0, 1, 2] [3] (wr := [(ol, .inl (T 1, 1, .inr (.inl (fun k => ou k))))]) rfl rfl (by decide) (by decide) (by decide) [1, 2, 3, 0] (by decide) rfl (fun ce q9 H locs hP hD hS hce hcv hcl => ?_)
  refine zc_catch (hh := [((0 : Nat), (10 : Nat), (13 : Nat), (13 : Nat)), ((0 : Nat), (10 : Nat), (17 : Nat), (42 : Nat))]) (E := "java/lang/IndexOutOfBoundsException") hown hts htab hZ hN hce hcv hcl [] (⟨0, 10, 13, 13⟩ : ExceptionTableEntry) [(⟨0, 10, 17, 42⟩ : ExceptionTableEntry)] rfl (fun z hz => nomatch hz) (by decide) (by decide) u336 cs_425 ?_
  have hP : va_P D zcl [(x, .inr (3, [.ref vs, .ref es, .ref o, .ref t])), (vs, .inl (T 0, 8, .inl (fun k => nI (yv k)))), (es, .inl (T 1, 8, .inr (.inl (fun k => edge (yv k))))), (ol, .inl (T 1, 1, .inr (.inl (fun k => ou k))))] H := hP
  have hD : va_D A [(x, .inr (3, [.ref vs, .ref es, .ref o, .ref t])), (vs, .inl (T 0, 8, .inl (fun k => nI (yv k)))), (es, .inl (T 1, 8, .inr (.inl (fun k => edge (yv k))))), (ol, .inl (T 1, 1, .inr (.inl (fun k => ou k))))] := hD
  refine lv_astore (lv' := [(4, .ref q9), (0, .ref x), (1, .int x0), (2, .int y0), (3, .ref ol)]) hx hb dL_grow_13 hl (by decide) rfl (fun ls hl => ?_)
  refine lv_iconst (v := 1) hx hb dL_grow_15 (by decide) ?_
  refine zc_more (cells' := 1) (slots' := 6) (Nat.le_of_ble_eq_true rfl) (Nat.le_of_ble_eq_true rfl) ?_
  exact zh_iret () hx hb hr hlocks dL_grow_16 hP hD hS (rfl) (rfl)
set_option maxRecDepth 20000 in
theorem w_put_no (l : Launch) (hlf : l.stackTraces = false) (D : va_G) (T : Nat → ClassId) (x vs es o t : Nat) (yv : Nat → Nat) (ol : Nat) (ou : Nat → Int64) (x0 : Int32) (hx0 : m_X8_is x0 = false) (y0 : Int32) (y1 y2 : Bool) : Cm l yL_put cL_put 7 (some FieldType.int) [((0 : Nat), (14 : Nat), (17 : Nat), (13 : Nat)), ((0 : Nat), (14 : Nat), (21 : Nat), (15 : Nat))] 8 D T [.ref x, .int x0, .int y0, .int (bI y1), .int (bI y2), .ref ol] [(x, .inr (3, [.ref vs, .ref es, .ref o, .ref t])), (vs, .inl (T 0, 8, .inl (fun k => nI (yv k)))), (es, .inl (T 1, 8, .inr (.inl (fun k => edge (yv k))))), (ol, .inl (T 1, 1, .inr (.inl (fun k => ou k))))] (some (.int 1)) (fun _ : Unit => [(x, .inr (3, [.ref vs, .ref es, .ref o, .ref t])), (vs, .inl (T 0, 8, .inl (fun k => nI (yv k)))), (es, .inl (T 1, 8, .inr (.inl (fun k => edge (yv k))))), (ol, .inl (T 1, 1, .inr (.inl (fun k => ou k))))]) := by
  refine Cm.of (by decide) (Nat.le_of_ble_eq_true rfl) ?_
  intro zp ze s zm args below zmeth zc hx hb hr hml hown hts hlocks htab A hA hP hK hD hS hZ hN ls hl
  have hl : lv_has ls 7 [(0, .ref x), (1, .int x0), (2, .int y0), (3, .int (bI y1)), (4, .int (bI y2)), (5, .ref ol)] := hl
  refine lv_aload hx hb dL_put_0 (lv_at hl 5 rfl) ?_
  refine lv_iconst (v := 0) hx hb dL_put_2 (by decide) ?_
  refine lv_aload_n hx hb dL_put_3 rfl (lv_at hl 0 rfl) ?_
  refine lv_iload_n hx hb dL_put_4 rfl (lv_at hl 1 rfl) ?_
  refine lv_iload_n hx hb dL_put_5 rfl (lv_at hl 2 rfl) ?_
  refine lv_iload_n hx hb dL_put_6 rfl (lv_at hl 3 rfl) ?_
  refine lv_iload hx hb dL_put_7 (lv_at hl 4 rfl) ?_
  refine zt_v (T := T) hx hb hml hown hts k_L_7 (t_X7_put_no l hlf D T x vs es o t yv x0 hx0 y0 y1 y2) ⟨by decide, by decide⟩ rfl hl.1 [.int 0, .ref ol] rfl (Nat.le_of_ble_eq_true rfl) dL_put_9 ⟨Nat.le_of_ble_eq_true rfl, Nat.le_of_ble_eq_true rfl⟩ hK hP hD hS hA hZ (ci := 3) rfl rfl rfl [0, 1, 2] [3] (wr := [(ol, .inl (T 1, 1, .inr (.inl (fun k => ou k))))]) rfl rfl (by decide) (by decide) (by decide) [1, 2, 3, 0] (by decide) rfl (fun ce q9 H locs hP hD hS hce hcv hcl => ?_)
  refine zc_catch (hh := [((0 : Nat), (14 : Nat), (17 : Nat), (13 : Nat)), ((0 : Nat), (14 : Nat), (21 : Nat), (15 : Nat))]) (E := "java/lang/IndexOutOfBoundsException") hown hts htab hZ hN hce hcv hcl [] (⟨0, 14, 17, 13⟩ : ExceptionTableEntry) [(⟨0, 14, 21, 15⟩ : ExceptionTableEntry)] rfl (fun z hz => nomatch hz) (by decide) (by decide) u336 cs_425 ?_
  have hP : va_P D zcl [(x, .inr (3, [.ref vs, .ref es, .ref o, .ref t])), (vs, .inl (T 0, 8, .inl (fun k => nI (yv k)))), (es, .inl (T 1, 8, .inr (.inl (fun k => edge (yv k))))), (ol, .inl (T 1, 1, .inr (.inl (fun k => ou k))))] H := hP
  have hD : va_D A [(x, .inr (3, [.ref vs, .ref es, .ref o, .ref t])), (vs, .inl (T 0, 8, .inl (fun k => nI (yv k)))), (es, .inl (T 1, 8, .inr (.inl (fun k => edge (yv k))))), (ol, .inl (T 1, 1, .inr (.inl (fun k => ou k))))] := hD
  refine lv_astore (lv' := [(6, .ref q9), (0, .ref x), (1, .int x0), (2, .int y0), (3, .int (bI y1)), (4, .int (bI y2)), (5, .ref ol)]) hx hb dL_put_17 hl (by decide) rfl (fun ls hl => ?_)
  refine lv_iconst (v := 1) hx hb dL_put_19 (by decide) ?_
  refine zc_more (cells' := 1) (slots' := 6) (Nat.le_of_ble_eq_true rfl) (Nat.le_of_ble_eq_true rfl) ?_
  exact zh_iret () hx hb hr hlocks dL_put_20 hP hD hS (rfl) (rfl)
set_option maxRecDepth 20000 in
theorem w_put_cnt (l : Launch) (hlf : l.stackTraces = false) (D : va_G) (T : Nat → ClassId) (x vs es o t : Nat) (yv : Nat → Nat) (ol : Nat) (ou : Nat → Int64) (p : Nat) (hp : p < 8) (y : Int32) (hx1 : y < 0 ∨ ¬ y ≤ 65535) (e0 b0 : Bool) : Cm l yL_put cL_put 7 (some FieldType.int) [((0 : Nat), (14 : Nat), (17 : Nat), (13 : Nat)), ((0 : Nat), (14 : Nat), (21 : Nat), (15 : Nat))] 8 D T [.ref x, .int (nI p), .int y, .int (bI e0), .int (bI b0), .ref ol] [(x, .inr (3, [.ref vs, .ref es, .ref o, .ref t])), (vs, .inl (T 0, 8, .inl (fun k => nI (yv k)))), (es, .inl (T 1, 8, .inr (.inl (fun k => edge (yv k))))), (ol, .inl (T 1, 1, .inr (.inl (fun k => ou k))))] (some (.int 2)) (fun _ : Unit => [(x, .inr (3, [.ref vs, .ref es, .ref o, .ref t])), (vs, .inl (T 0, 8, .inl (fun k => nI (yv k)))), (es, .inl (T 1, 8, .inr (.inl (fun k => edge (yv k))))), (ol, .inl (T 1, 1, .inr (.inl (fun k => ou k))))]) := by
  refine Cm.of (by decide) (Nat.le_of_ble_eq_true rfl) ?_
  intro zp ze s zm args below zmeth zc hx hb hr hml hown hts hlocks htab A hA hP hK hD hS hZ hN ls hl
  have hl : lv_has ls 7 [(0, .ref x), (1, .int (nI p)), (2, .int y), (3, .int (bI e0)), (4, .int (bI b0)), (5, .ref ol)] := hl
  refine lv_aload hx hb dL_put_0 (lv_at hl 5 rfl) ?_
  refine lv_iconst (v := 0) hx hb dL_put_2 (by decide) ?_
  refine lv_aload_n hx hb dL_put_3 rfl (lv_at hl 0 rfl) ?_
  refine lv_iload_n hx hb dL_put_4 rfl (lv_at hl 1 rfl) ?_
  refine lv_iload_n hx hb dL_put_5 rfl (lv_at hl 2 rfl) ?_
  refine lv_iload_n hx hb dL_put_6 rfl (lv_at hl 3 rfl) ?_
  refine lv_iload hx hb dL_put_7 (lv_at hl 4 rfl) ?_
  refine zt_v (T := T) hx hb hml hown hts k_L_7 (t_X7_put_cnt l hlf D T x vs es o t yv p hp y hx1 e0 b0) ⟨by decide, by decide⟩ rfl hl.1 [.int 0, .ref ol] rfl (Nat.le_of_ble_eq_true rfl) dL_put_9 ⟨Nat.le_of_ble_eq_true rfl, Nat.le_of_ble_eq_true rfl⟩ hK hP hD hS hA hZ (ci := 3) rfl rfl rfl [0, 1, 2] [3] (wr := [(ol, .inl (T 1, 1, .inr (.inl (fun k => ou k))))]) rfl rfl (by decide) (by decide) (by decide) [1, 2, 3, 0] (by decide) rfl (fun ce q9 H locs hP hD hS hce hcv hcl => ?_)
  refine zc_catch (hh := [((0 : Nat), (14 : Nat), (17 : Nat), (13 : Nat)), ((0 : Nat), (14 : Nat), (21 : Nat), (15 : Nat))]) (E := "java/lang/IllegalArgumentException") hown hts htab hZ hN hce hcv hcl [(⟨0, 14, 17, 13⟩ : ExceptionTableEntry)] (⟨0, 14, 21, 15⟩ : ExceptionTableEntry) [] rfl (fun z hz => by rw [List.mem_singleton.mp hz]; exact ⟨by decide, "java/lang/IndexOutOfBoundsException", u336, by decide⟩) (by decide) (by decide) u415 cs_439 ?_
  have hP : va_P D zcl [(x, .inr (3, [.ref vs, .ref es, .ref o, .ref t])), (vs, .inl (T 0, 8, .inl (fun k => nI (yv k)))), (es, .inl (T 1, 8, .inr (.inl (fun k => edge (yv k))))), (ol, .inl (T 1, 1, .inr (.inl (fun k => ou k))))] H := hP
  have hD : va_D A [(x, .inr (3, [.ref vs, .ref es, .ref o, .ref t])), (vs, .inl (T 0, 8, .inl (fun k => nI (yv k)))), (es, .inl (T 1, 8, .inr (.inl (fun k => edge (yv k))))), (ol, .inl (T 1, 1, .inr (.inl (fun k => ou k))))] := hD
  refine lv_astore (lv' := [(6, .ref q9), (0, .ref x), (1, .int (nI p)), (2, .int y), (3, .int (bI e0)), (4, .int (bI b0)), (5, .ref ol)]) hx hb dL_put_21 hl (by decide) rfl (fun ls hl => ?_)
  refine lv_iconst (v := 2) hx hb dL_put_23 (by decide) ?_
  refine zc_more (cells' := 1) (slots' := 6) (Nat.le_of_ble_eq_true rfl) (Nat.le_of_ble_eq_true rfl) ?_
  exact zh_iret () hx hb hr hlocks dL_put_24 hP hD hS (rfl) (rfl)
set_option maxRecDepth 20000 in
theorem w_order_no (l : Launch) (hlf : l.stackTraces = false) (D : va_G) (T : Nat → ClassId) (x vs es o t : Nat) (yv : Nat → Nat) (ol : Nat) (ou : Nat → Int64) (x0 y0 : Int32) (hx0 : (m_X8_is x0 && m_X8_is y0) = false) : Cm l yL_order cL_order 5 (some FieldType.int) [((0 : Nat), (10 : Nat), (13 : Nat), (13 : Nat))] 8 D T [.ref x, .int x0, .int y0, .ref ol] [(x, .inr (3, [.ref vs, .ref es, .ref o, .ref t])), (vs, .inl (T 0, 8, .inl (fun k => nI (yv k)))), (es, .inl (T 1, 8, .inr (.inl (fun k => edge (yv k))))), (ol, .inl (T 1, 1, .inr (.inl (fun k => ou k))))] (some (.int 1)) (fun _ : Unit => [(x, .inr (3, [.ref vs, .ref es, .ref o, .ref t])), (vs, .inl (T 0, 8, .inl (fun k => nI (yv k)))), (es, .inl (T 1, 8, .inr (.inl (fun k => edge (yv k))))), (ol, .inl (T 1, 1, .inr (.inl (fun k => ou k))))]) := by
  refine Cm.of (by decide) (Nat.le_of_ble_eq_true rfl) ?_
  intro zp ze s zm args below zmeth zc hx hb hr hml hown hts hlocks htab A hA hP hK hD hS hZ hN ls hl
  have hl : lv_has ls 5 [(0, .ref x), (1, .int x0), (2, .int y0), (3, .ref ol)] := hl
  refine lv_aload_n hx hb dL_order_0 rfl (lv_at hl 3 rfl) ?_
  refine lv_iconst (v := 0) hx hb dL_order_1 (by decide) ?_
  refine lv_aload_n hx hb dL_order_2 rfl (lv_at hl 0 rfl) ?_
  refine lv_iload_n hx hb dL_order_3 rfl (lv_at hl 1 rfl) ?_
  refine lv_iload_n hx hb dL_order_4 rfl (lv_at hl 2 rfl) ?_
  refine zt_v (T := T) hx hb hml hown hts k_L_44 (t_X7_order_no l hlf D T x vs es o t yv x0 y0 hx0) ⟨by decide, by decide⟩ rfl hl.1 [.int 0, .ref ol] rfl (Nat.le_of_ble_eq_true rfl) dL_order_5 ⟨Nat.le_of_ble_eq_true rfl, Nat.le_of_ble_eq_true rfl⟩ hK hP hD hS hA hZ (ci := 3) rfl rfl rfl [0, 1, 2] [3] (wr := [(ol, .inl (T 1, 1, .inr (.inl (fun k => ou k))))]) rfl rfl (by decide) (by decide) (by decide) [1, 2, 3, 0] (by decide) rfl (fun ce q9 H locs hP hD hS hce hcv hcl => ?_)
  refine zc_catch (hh := [((0 : Nat), (10 : Nat), (13 : Nat), (13 : Nat))]) (E := "java/lang/IndexOutOfBoundsException") hown hts htab hZ hN hce hcv hcl [] (⟨0, 10, 13, 13⟩ : ExceptionTableEntry) [] rfl (fun z hz => nomatch hz) (by decide) (by decide) u336 cs_425 ?_
  have hP : va_P D zcl [(x, .inr (3, [.ref vs, .ref es, .ref o, .ref t])), (vs, .inl (T 0, 8, .inl (fun k => nI (yv k)))), (es, .inl (T 1, 8, .inr (.inl (fun k => edge (yv k))))), (ol, .inl (T 1, 1, .inr (.inl (fun k => ou k))))] H := hP
  have hD : va_D A [(x, .inr (3, [.ref vs, .ref es, .ref o, .ref t])), (vs, .inl (T 0, 8, .inl (fun k => nI (yv k)))), (es, .inl (T 1, 8, .inr (.inl (fun k => edge (yv k))))), (ol, .inl (T 1, 1, .inr (.inl (fun k => ou k))))] := hD
  refine lv_astore (lv' := [(4, .ref q9), (0, .ref x), (1, .int x0), (2, .int y0), (3, .ref ol)]) hx hb dL_order_13 hl (by decide) rfl (fun ls hl => ?_)
  refine lv_iconst (v := 1) hx hb dL_order_15 (by decide) ?_
  refine zc_more (cells' := 1) (slots' := 6) (Nat.le_of_ble_eq_true rfl) (Nat.le_of_ble_eq_true rfl) ?_
  exact zh_iret () hx hb hr hlocks dL_order_16 hP hD hS (rfl) (rfl)
set_option maxRecDepth 20000 in
theorem w_opposite_no (l : Launch) (hlf : l.stackTraces = false) (D : va_G) (T : Nat → ClassId) (x vs es o t : Nat) (yv : Nat → Nat) (ol : Nat) (ou : Nat → Int64) (x0 y0 : Int32) (hx0 : (m_X8_is x0 && m_X8_is y0) = false) : Cm l yL_opposite cL_opposite 5 (some FieldType.int) [((0 : Nat), (17 : Nat), (20 : Nat), (13 : Nat))] 8 D T [.ref x, .int x0, .int y0, .ref ol] [(x, .inr (3, [.ref vs, .ref es, .ref o, .ref t])), (vs, .inl (T 0, 8, .inl (fun k => nI (yv k)))), (es, .inl (T 1, 8, .inr (.inl (fun k => edge (yv k))))), (ol, .inl (T 1, 1, .inr (.inl (fun k => ou k))))] (some (.int 1)) (fun _ : Unit => [(x, .inr (3, [.ref vs, .ref es, .ref o, .ref t])), (vs, .inl (T 0, 8, .inl (fun k => nI (yv k)))), (es, .inl (T 1, 8, .inr (.inl (fun k => edge (yv k))))), (ol, .inl (T 1, 1, .inr (.inl (fun k => ou k))))]) := by
  refine Cm.of (by decide) (Nat.le_of_ble_eq_true rfl) ?_
  intro zp ze s zm args below zmeth zc hx hb hr hml hown hts hlocks htab A hA hP hK hD hS hZ hN ls hl
  have hl : lv_has ls 5 [(0, .ref x), (1, .int x0), (2, .int y0), (3, .ref ol)] := hl
  refine lv_aload_n hx hb dL_opposite_0 rfl (lv_at hl 3 rfl) ?_
  refine lv_iconst (v := 0) hx hb dL_opposite_1 (by decide) ?_
  refine lv_aload_n hx hb dL_opposite_2 rfl (lv_at hl 0 rfl) ?_
  refine lv_iload_n hx hb dL_opposite_3 rfl (lv_at hl 1 rfl) ?_
  refine lv_iload_n hx hb dL_opposite_4 rfl (lv_at hl 2 rfl) ?_
  refine zt_v (T := T) hx hb hml hown hts k_L_51 (t_X7_opposite_no l hlf D T x vs es o t yv x0 y0 hx0) ⟨by decide, by decide⟩ rfl hl.1 [.int 0, .ref ol] rfl (Nat.le_of_ble_eq_true rfl) dL_opposite_5 ⟨Nat.le_of_ble_eq_true rfl, Nat.le_of_ble_eq_true rfl⟩ hK hP hD hS hA hZ (ci := 3) rfl rfl rfl [0, 1, 2] [3] (wr := [(ol, .inl (T 1, 1, .inr (.inl (fun k => ou k))))]) rfl rfl (by decide) (by decide) (by decide) [1, 2, 3, 0] (by decide) rfl (fun ce q9 H locs hP hD hS hce hcv hcl => ?_)
  refine zc_catch (hh := [((0 : Nat), (17 : Nat), (20 : Nat), (13 : Nat))]) (E := "java/lang/IndexOutOfBoundsException") hown hts htab hZ hN hce hcv hcl [] (⟨0, 17, 20, 13⟩ : ExceptionTableEntry) [] rfl (fun z hz => nomatch hz) (by decide) (by decide) u336 cs_425 ?_
  have hP : va_P D zcl [(x, .inr (3, [.ref vs, .ref es, .ref o, .ref t])), (vs, .inl (T 0, 8, .inl (fun k => nI (yv k)))), (es, .inl (T 1, 8, .inr (.inl (fun k => edge (yv k))))), (ol, .inl (T 1, 1, .inr (.inl (fun k => ou k))))] H := hP
  have hD : va_D A [(x, .inr (3, [.ref vs, .ref es, .ref o, .ref t])), (vs, .inl (T 0, 8, .inl (fun k => nI (yv k)))), (es, .inl (T 1, 8, .inr (.inl (fun k => edge (yv k))))), (ol, .inl (T 1, 1, .inr (.inl (fun k => ou k))))] := hD
  refine lv_astore (lv' := [(4, .ref q9), (0, .ref x), (1, .int x0), (2, .int y0), (3, .ref ol)]) hx hb dL_opposite_20 hl (by decide) rfl (fun ls hl => ?_)
  refine lv_iconst (v := 1) hx hb dL_opposite_22 (by decide) ?_
  refine zc_more (cells' := 1) (slots' := 6) (Nat.le_of_ble_eq_true rfl) (Nat.le_of_ble_eq_true rfl) ?_
  exact zh_iret () hx hb hr hlocks dL_opposite_23 hP hD hS (rfl) (rfl)
set_option maxRecDepth 20000 in
theorem w_eightfold_no (l : Launch) (hlf : l.stackTraces = false) (D : va_G) (T : Nat → ClassId) (x vs es o t : Nat) (yv : Nat → Nat) (ol : Nat) (ou : Nat → Int64) (x0 y0 : Int32) (hx0 : (m_X8_is x0 && m_X8_is y0) = false) : Cm l yL_eightfold cL_eightfold 5 (some FieldType.int) [((0 : Nat), (17 : Nat), (20 : Nat), (13 : Nat)), ((0 : Nat), (17 : Nat), (24 : Nat), (42 : Nat))] 8 D T [.ref x, .int x0, .int y0, .ref ol] [(x, .inr (3, [.ref vs, .ref es, .ref o, .ref t])), (vs, .inl (T 0, 8, .inl (fun k => nI (yv k)))), (es, .inl (T 1, 8, .inr (.inl (fun k => edge (yv k))))), (ol, .inl (T 1, 1, .inr (.inl (fun k => ou k))))] (some (.int 1)) (fun _ : Unit => [(x, .inr (3, [.ref vs, .ref es, .ref o, .ref t])), (vs, .inl (T 0, 8, .inl (fun k => nI (yv k)))), (es, .inl (T 1, 8, .inr (.inl (fun k => edge (yv k))))), (ol, .inl (T 1, 1, .inr (.inl (fun k => ou k))))]) := by
  refine Cm.of (by decide) (Nat.le_of_ble_eq_true rfl) ?_
  intro zp ze s zm args below zmeth zc hx hb hr hml hown hts hlocks htab A hA hP hK hD hS hZ hN ls hl
  have hl : lv_has ls 5 [(0, .ref x), (1, .int x0), (2, .int y0), (3, .ref ol)] := hl
  refine lv_aload_n hx hb dL_eightfold_0 rfl (lv_at hl 3 rfl) ?_
  refine lv_iconst (v := 0) hx hb dL_eightfold_1 (by decide) ?_
  refine lv_aload_n hx hb dL_eightfold_2 rfl (lv_at hl 0 rfl) ?_
  refine lv_iload_n hx hb dL_eightfold_3 rfl (lv_at hl 1 rfl) ?_
  refine lv_iload_n hx hb dL_eightfold_4 rfl (lv_at hl 2 rfl) ?_
  refine zt_v (T := T) hx hb hml hown hts k_L_55 (t_X7_eightfold_no l hlf D T x vs es o t yv x0 y0 hx0) ⟨by decide, by decide⟩ rfl hl.1 [.int 0, .ref ol] rfl (Nat.le_of_ble_eq_true rfl) dL_eightfold_5 ⟨Nat.le_of_ble_eq_true rfl, Nat.le_of_ble_eq_true rfl⟩ hK hP hD hS hA hZ (ci := 3) rfl rfl rfl [0, 1, 2] [3] (wr := [(ol, .inl (T 1, 1, .inr (.inl (fun k => ou k))))]) rfl rfl (by decide) (by decide) (by decide) [1, 2, 3, 0] (by decide) rfl (fun ce q9 H locs hP hD hS hce hcv hcl => ?_)
  refine zc_catch (hh := [((0 : Nat), (17 : Nat), (20 : Nat), (13 : Nat)), ((0 : Nat), (17 : Nat), (24 : Nat), (42 : Nat))]) (E := "java/lang/IndexOutOfBoundsException") hown hts htab hZ hN hce hcv hcl [] (⟨0, 17, 20, 13⟩ : ExceptionTableEntry) [(⟨0, 17, 24, 42⟩ : ExceptionTableEntry)] rfl (fun z hz => nomatch hz) (by decide) (by decide) u336 cs_425 ?_
  have hP : va_P D zcl [(x, .inr (3, [.ref vs, .ref es, .ref o, .ref t])), (vs, .inl (T 0, 8, .inl (fun k => nI (yv k)))), (es, .inl (T 1, 8, .inr (.inl (fun k => edge (yv k))))), (ol, .inl (T 1, 1, .inr (.inl (fun k => ou k))))] H := hP
  have hD : va_D A [(x, .inr (3, [.ref vs, .ref es, .ref o, .ref t])), (vs, .inl (T 0, 8, .inl (fun k => nI (yv k)))), (es, .inl (T 1, 8, .inr (.inl (fun k => edge (yv k))))), (ol, .inl (T 1, 1, .inr (.inl (fun k => ou k))))] := hD
  refine lv_astore (lv' := [(4, .ref q9), (0, .ref x), (1, .int x0), (2, .int y0), (3, .ref ol)]) hx hb dL_eightfold_20 hl (by decide) rfl (fun ls hl => ?_)
  refine lv_iconst (v := 1) hx hb dL_eightfold_22 (by decide) ?_
  refine zc_more (cells' := 1) (slots' := 6) (Nat.le_of_ble_eq_true rfl) (Nat.le_of_ble_eq_true rfl) ?_
  exact zh_iret () hx hb hr hlocks dL_eightfold_23 hP hD hS (rfl) (rfl)
set_option maxRecDepth 20000 in
theorem w_eighth_no (l : Launch) (hlf : l.stackTraces = false) (D : va_G) (T : Nat → ClassId) (x vs es o t : Nat) (yv : Nat → Nat) (ol : Nat) (ou : Nat → Int64) (x0 y0 : Int32) (hx0 : (m_X8_is x0 && m_X8_is y0) = false) : Cm l yL_eighth cL_eighth 5 (some FieldType.int) [((0 : Nat), (17 : Nat), (20 : Nat), (13 : Nat)), ((0 : Nat), (17 : Nat), (24 : Nat), (42 : Nat))] 8 D T [.ref x, .int x0, .int y0, .ref ol] [(x, .inr (3, [.ref vs, .ref es, .ref o, .ref t])), (vs, .inl (T 0, 8, .inl (fun k => nI (yv k)))), (es, .inl (T 1, 8, .inr (.inl (fun k => edge (yv k))))), (ol, .inl (T 1, 1, .inr (.inl (fun k => ou k))))] (some (.int 1)) (fun _ : Unit => [(x, .inr (3, [.ref vs, .ref es, .ref o, .ref t])), (vs, .inl (T 0, 8, .inl (fun k => nI (yv k)))), (es, .inl (T 1, 8, .inr (.inl (fun k => edge (yv k))))), (ol, .inl (T 1, 1, .inr (.inl (fun k => ou k))))]) := by
  refine Cm.of (by decide) (Nat.le_of_ble_eq_true rfl) ?_
  intro zp ze s zm args below zmeth zc hx hb hr hml hown hts hlocks htab A hA hP hK hD hS hZ hN ls hl
  have hl : lv_has ls 5 [(0, .ref x), (1, .int x0), (2, .int y0), (3, .ref ol)] := hl
  refine lv_aload_n hx hb dL_eighth_0 rfl (lv_at hl 3 rfl) ?_
  refine lv_iconst (v := 0) hx hb dL_eighth_1 (by decide) ?_
  refine lv_aload_n hx hb dL_eighth_2 rfl (lv_at hl 0 rfl) ?_
  refine lv_iload_n hx hb dL_eighth_3 rfl (lv_at hl 1 rfl) ?_
  refine lv_iload_n hx hb dL_eighth_4 rfl (lv_at hl 2 rfl) ?_
  refine zt_v (T := T) hx hb hml hown hts k_L_58 (t_X7_eighth_no l hlf D T x vs es o t yv x0 y0 hx0) ⟨by decide, by decide⟩ rfl hl.1 [.int 0, .ref ol] rfl (Nat.le_of_ble_eq_true rfl) dL_eighth_5 ⟨Nat.le_of_ble_eq_true rfl, Nat.le_of_ble_eq_true rfl⟩ hK hP hD hS hA hZ (ci := 3) rfl rfl rfl [0, 1, 2] [3] (wr := [(ol, .inl (T 1, 1, .inr (.inl (fun k => ou k))))]) rfl rfl (by decide) (by decide) (by decide) [1, 2, 3, 0] (by decide) rfl (fun ce q9 H locs hP hD hS hce hcv hcl => ?_)
  refine zc_catch (hh := [((0 : Nat), (17 : Nat), (20 : Nat), (13 : Nat)), ((0 : Nat), (17 : Nat), (24 : Nat), (42 : Nat))]) (E := "java/lang/IndexOutOfBoundsException") hown hts htab hZ hN hce hcv hcl [] (⟨0, 17, 20, 13⟩ : ExceptionTableEntry) [(⟨0, 17, 24, 42⟩ : ExceptionTableEntry)] rfl (fun z hz => nomatch hz) (by decide) (by decide) u336 cs_425 ?_
  have hP : va_P D zcl [(x, .inr (3, [.ref vs, .ref es, .ref o, .ref t])), (vs, .inl (T 0, 8, .inl (fun k => nI (yv k)))), (es, .inl (T 1, 8, .inr (.inl (fun k => edge (yv k))))), (ol, .inl (T 1, 1, .inr (.inl (fun k => ou k))))] H := hP
  have hD : va_D A [(x, .inr (3, [.ref vs, .ref es, .ref o, .ref t])), (vs, .inl (T 0, 8, .inl (fun k => nI (yv k)))), (es, .inl (T 1, 8, .inr (.inl (fun k => edge (yv k))))), (ol, .inl (T 1, 1, .inr (.inl (fun k => ou k))))] := hD
  refine lv_astore (lv' := [(4, .ref q9), (0, .ref x), (1, .int x0), (2, .int y0), (3, .ref ol)]) hx hb dL_eighth_20 hl (by decide) rfl (fun ls hl => ?_)
  refine lv_iconst (v := 1) hx hb dL_eighth_22 (by decide) ?_
  refine zc_more (cells' := 1) (slots' := 6) (Nat.le_of_ble_eq_true rfl) (Nat.le_of_ble_eq_true rfl) ?_
  exact zh_iret () hx hb hr hlocks dL_eighth_23 hP hD hS (rfl) (rfl)
set_option maxRecDepth 20000 in
theorem w_add_no (l : Launch) (hlf : l.stackTraces = false) (D : va_G) (T : Nat → ClassId) (x vs es o t : Nat) (yv : Nat → Nat) (ol : Nat) (ou : Nat → Int64) (x0 y0 z0 : Int32) (hx0 : (m_X8_is x0 && m_X8_is y0 && m_X8_is z0) = false) : Cm l yL_add cL_add 6 (some FieldType.int) [((0 : Nat), (19 : Nat), (22 : Nat), (13 : Nat)), ((0 : Nat), (19 : Nat), (26 : Nat), (15 : Nat)), ((0 : Nat), (19 : Nat), (30 : Nat), (42 : Nat))] 8 D T [.ref x, .int x0, .int y0, .int z0, .ref ol] [(x, .inr (3, [.ref vs, .ref es, .ref o, .ref t])), (vs, .inl (T 0, 8, .inl (fun k => nI (yv k)))), (es, .inl (T 1, 8, .inr (.inl (fun k => edge (yv k))))), (ol, .inl (T 1, 1, .inr (.inl (fun k => ou k))))] (some (.int 1)) (fun _ : Unit => [(x, .inr (3, [.ref vs, .ref es, .ref o, .ref t])), (vs, .inl (T 0, 8, .inl (fun k => nI (yv k)))), (es, .inl (T 1, 8, .inr (.inl (fun k => edge (yv k))))), (ol, .inl (T 1, 1, .inr (.inl (fun k => ou k))))]) := by
  refine Cm.of (by decide) (Nat.le_of_ble_eq_true rfl) ?_
  intro zp ze s zm args below zmeth zc hx hb hr hml hown hts hlocks htab A hA hP hK hD hS hZ hN ls hl
  have hl : lv_has ls 6 [(0, .ref x), (1, .int x0), (2, .int y0), (3, .int z0), (4, .ref ol)] := hl
  refine lv_aload hx hb dL_add_0 (lv_at hl 4 rfl) ?_
  refine lv_iconst (v := 0) hx hb dL_add_2 (by decide) ?_
  refine lv_aload_n hx hb dL_add_3 rfl (lv_at hl 0 rfl) ?_
  refine lv_iload_n hx hb dL_add_4 rfl (lv_at hl 1 rfl) ?_
  refine lv_iload_n hx hb dL_add_5 rfl (lv_at hl 2 rfl) ?_
  refine lv_iload_n hx hb dL_add_6 rfl (lv_at hl 3 rfl) ?_
  refine zt_v (T := T) hx hb hml hown hts k_L_68 (t_X7_add_no l hlf D T x vs es o t yv x0 y0 z0 hx0) ⟨by decide, by decide⟩ rfl hl.1 [.int 0, .ref ol] rfl (Nat.le_of_ble_eq_true rfl) dL_add_7 ⟨Nat.le_of_ble_eq_true rfl, Nat.le_of_ble_eq_true rfl⟩ hK hP hD hS hA hZ (ci := 3) rfl rfl rfl [0, 1, 2] [3] (wr := [(ol, .inl (T 1, 1, .inr (.inl (fun k => ou k))))]) rfl rfl (by decide) (by decide) (by decide) [1, 2, 3, 0] (by decide) rfl (fun ce q9 H locs hP hD hS hce hcv hcl => ?_)
  refine zc_catch (hh := [((0 : Nat), (19 : Nat), (22 : Nat), (13 : Nat)), ((0 : Nat), (19 : Nat), (26 : Nat), (15 : Nat)), ((0 : Nat), (19 : Nat), (30 : Nat), (42 : Nat))]) (E := "java/lang/IndexOutOfBoundsException") hown hts htab hZ hN hce hcv hcl [] (⟨0, 19, 22, 13⟩ : ExceptionTableEntry) [(⟨0, 19, 26, 15⟩ : ExceptionTableEntry), (⟨0, 19, 30, 42⟩ : ExceptionTableEntry)] rfl (fun z hz => nomatch hz) (by decide) (by decide) u336 cs_425 ?_
  have hP : va_P D zcl [(x, .inr (3, [.ref vs, .ref es, .ref o, .ref t])), (vs, .inl (T 0, 8, .inl (fun k => nI (yv k)))), (es, .inl (T 1, 8, .inr (.inl (fun k => edge (yv k))))), (ol, .inl (T 1, 1, .inr (.inl (fun k => ou k))))] H := hP
  have hD : va_D A [(x, .inr (3, [.ref vs, .ref es, .ref o, .ref t])), (vs, .inl (T 0, 8, .inl (fun k => nI (yv k)))), (es, .inl (T 1, 8, .inr (.inl (fun k => edge (yv k))))), (ol, .inl (T 1, 1, .inr (.inl (fun k => ou k))))] := hD
  refine lv_astore (lv' := [(5, .ref q9), (0, .ref x), (1, .int x0), (2, .int y0), (3, .int z0), (4, .ref ol)]) hx hb dL_add_22 hl (by decide) rfl (fun ls hl => ?_)
  refine lv_iconst (v := 1) hx hb dL_add_24 (by decide) ?_
  refine zc_more (cells' := 1) (slots' := 6) (Nat.le_of_ble_eq_true rfl) (Nat.le_of_ble_eq_true rfl) ?_
  exact zh_iret () hx hb hr hlocks dL_add_25 hP hD hS (rfl) (rfl)
set_option maxRecDepth 20000 in
theorem w_bits_not (l : Launch) (hlf : l.stackTraces = false) (D : va_G) (T : Nat → ClassId) (x vs es o t : Nat) (yv : Nat → Nat) (ol : Nat) (ou : Nat → Int64) (p : Nat) (hp : p < 8) (hy : ∀ k, yv k < 262144) (he : exB (eig (yv p)) = false) : Cm l yL_bits cL_bits 4 (some FieldType.int) [((0 : Nat), (8 : Nat), (11 : Nat), (13 : Nat)), ((0 : Nat), (8 : Nat), (14 : Nat), (42 : Nat))] 8 D T [.ref x, .int (nI p), .ref ol] [(x, .inr (3, [.ref vs, .ref es, .ref o, .ref t])), (vs, .inl (T 0, 8, .inl (fun k => nI (yv k)))), (es, .inl (T 1, 8, .inr (.inl (fun k => edge (yv k))))), (ol, .inl (T 1, 1, .inr (.inl (fun k => ou k))))] (some (.int 2)) (fun _ : Unit => [(x, .inr (3, [.ref vs, .ref es, .ref o, .ref t])), (vs, .inl (T 0, 8, .inl (fun k => nI (yv k)))), (es, .inl (T 1, 8, .inr (.inl (fun k => edge (yv k))))), (ol, .inl (T 1, 1, .inr (.inl (fun k => ou k))))]) := by
  refine Cm.of (by decide) (Nat.le_of_ble_eq_true rfl) ?_
  intro zp ze s zm args below zmeth zc hx hb hr hml hown hts hlocks htab A hA hP hK hD hS hZ hN ls hl
  have hl : lv_has ls 4 [(0, .ref x), (1, .int (nI p)), (2, .ref ol)] := hl
  refine lv_aload_n hx hb dL_bits_0 rfl (lv_at hl 2 rfl) ?_
  refine lv_iconst (v := 0) hx hb dL_bits_1 (by decide) ?_
  refine lv_aload_n hx hb dL_bits_2 rfl (lv_at hl 0 rfl) ?_
  refine lv_iload_n hx hb dL_bits_3 rfl (lv_at hl 1 rfl) ?_
  refine zt_v (T := T) hx hb hml hown hts k_L_38 (t_X7_bits_not l hlf D T x vs es o t yv p hp hy he) ⟨by decide, by decide⟩ rfl hl.1 [.int 0, .ref ol] rfl (Nat.le_of_ble_eq_true rfl) dL_bits_4 ⟨Nat.le_of_ble_eq_true rfl, Nat.le_of_ble_eq_true rfl⟩ hK hP hD hS hA hZ (ci := 3) rfl rfl rfl [0, 1, 2] [3] (wr := [(ol, .inl (T 1, 1, .inr (.inl (fun k => ou k))))]) rfl rfl (by decide) (by decide) (by decide) [1, 2, 3, 0] (by decide) rfl (fun ce q9 H locs hP hD hS hce hcv hcl => ?_)
  refine zc_catch (hh := [((0 : Nat), (8 : Nat), (11 : Nat), (13 : Nat)), ((0 : Nat), (8 : Nat), (14 : Nat), (42 : Nat))]) (E := "java/lang/ArithmeticException") hown hts htab hZ hN hce hcv hcl [(⟨0, 8, 11, 13⟩ : ExceptionTableEntry)] (⟨0, 8, 14, 42⟩ : ExceptionTableEntry) [] rfl (fun z hz => by rw [List.mem_singleton.mp hz]; exact ⟨by decide, "java/lang/IndexOutOfBoundsException", u336, by decide⟩) (by decide) (by decide) u507 cs_519 ?_
  have hP : va_P D zcl [(x, .inr (3, [.ref vs, .ref es, .ref o, .ref t])), (vs, .inl (T 0, 8, .inl (fun k => nI (yv k)))), (es, .inl (T 1, 8, .inr (.inl (fun k => edge (yv k))))), (ol, .inl (T 1, 1, .inr (.inl (fun k => ou k))))] H := hP
  have hD : va_D A [(x, .inr (3, [.ref vs, .ref es, .ref o, .ref t])), (vs, .inl (T 0, 8, .inl (fun k => nI (yv k)))), (es, .inl (T 1, 8, .inr (.inl (fun k => edge (yv k))))), (ol, .inl (T 1, 1, .inr (.inl (fun k => ou k))))] := hD
  refine lv_astore_n (lv' := [(3, .ref q9), (0, .ref x), (1, .int (nI p)), (2, .ref ol)]) hx hb dL_bits_14 rfl hl (by decide) rfl (fun ls hl => ?_)
  refine lv_iconst (v := 2) hx hb dL_bits_15 (by decide) ?_
  refine zc_more (cells' := 1) (slots' := 6) (Nat.le_of_ble_eq_true rfl) (Nat.le_of_ble_eq_true rfl) ?_
  exact zh_iret () hx hb hr hlocks dL_bits_16 hP hD hS (rfl) (rfl)
set_option maxRecDepth 20000 in
theorem w_grow_out (l : Launch) (hlf : l.stackTraces = false) (D : va_G) (T : Nat → ClassId) (x vs es o t : Nat) (yv : Nat → Nat) (ol : Nat) (ou : Nat → Int64) (p : Nat) (hp : p < 8) (x0 : Int32) (hg : lN (yv p / 4) + Int32.toInt64 x0 < 0 ∨ 65535 < lN (yv p / 4) + Int32.toInt64 x0) (hy : ∀ k, yv k < 262144) : Cm l yL_grow cL_grow 5 (some FieldType.int) [((0 : Nat), (10 : Nat), (13 : Nat), (13 : Nat)), ((0 : Nat), (10 : Nat), (17 : Nat), (42 : Nat))] 8 D T [.ref x, .int (nI p), .int x0, .ref ol] [(x, .inr (3, [.ref vs, .ref es, .ref o, .ref t])), (vs, .inl (T 0, 8, .inl (fun k => nI (yv k)))), (es, .inl (T 1, 8, .inr (.inl (fun k => edge (yv k))))), (ol, .inl (T 1, 1, .inr (.inl (fun k => ou k))))] (some (.int 2)) (fun _ : Unit => [(x, .inr (3, [.ref vs, .ref es, .ref o, .ref t])), (vs, .inl (T 0, 8, .inl (fun k => nI (yv k)))), (es, .inl (T 1, 8, .inr (.inl (fun k => edge (yv k))))), (ol, .inl (T 1, 1, .inr (.inl (fun k => ou k))))]) := by
  refine Cm.of (by decide) (Nat.le_of_ble_eq_true rfl) ?_
  intro zp ze s zm args below zmeth zc hx hb hr hml hown hts hlocks htab A hA hP hK hD hS hZ hN ls hl
  have hl : lv_has ls 5 [(0, .ref x), (1, .int (nI p)), (2, .int x0), (3, .ref ol)] := hl
  refine lv_aload_n hx hb dL_grow_0 rfl (lv_at hl 3 rfl) ?_
  refine lv_iconst (v := 0) hx hb dL_grow_1 (by decide) ?_
  refine lv_aload_n hx hb dL_grow_2 rfl (lv_at hl 0 rfl) ?_
  refine lv_iload_n hx hb dL_grow_3 rfl (lv_at hl 1 rfl) ?_
  refine lv_iload_n hx hb dL_grow_4 rfl (lv_at hl 2 rfl) ?_
  refine zt_v (T := T) hx hb hml hown hts k_L_48 (t_X7_grow_out l hlf D T x vs es o t yv p hp x0 hg hy) ⟨by decide, by decide⟩ rfl hl.1 [.int 0, .ref ol] rfl (Nat.le_of_ble_eq_true rfl) dL_grow_5 ⟨Nat.le_of_ble_eq_true rfl, Nat.le_of_ble_eq_true rfl⟩ hK hP hD hS hA hZ (ci := 3) rfl rfl rfl [0, 1, 2] [3] (wr := [(ol, .inl (T 1, 1, .inr (.inl (fun k => ou k))))]) rfl rfl (by decide) (by decide) (by decide) [1, 2, 3, 0] (by decide) rfl (fun ce q9 H locs hP hD hS hce hcv hcl => ?_)
  refine zc_catch (hh := [((0 : Nat), (10 : Nat), (13 : Nat), (13 : Nat)), ((0 : Nat), (10 : Nat), (17 : Nat), (42 : Nat))]) (E := "java/lang/ArithmeticException") hown hts htab hZ hN hce hcv hcl [(⟨0, 10, 13, 13⟩ : ExceptionTableEntry)] (⟨0, 10, 17, 42⟩ : ExceptionTableEntry) [] rfl (fun z hz => by rw [List.mem_singleton.mp hz]; exact ⟨by decide, "java/lang/IndexOutOfBoundsException", u336, by decide⟩) (by decide) (by decide) u507 cs_519 ?_
  have hP : va_P D zcl [(x, .inr (3, [.ref vs, .ref es, .ref o, .ref t])), (vs, .inl (T 0, 8, .inl (fun k => nI (yv k)))), (es, .inl (T 1, 8, .inr (.inl (fun k => edge (yv k))))), (ol, .inl (T 1, 1, .inr (.inl (fun k => ou k))))] H := hP
  have hD : va_D A [(x, .inr (3, [.ref vs, .ref es, .ref o, .ref t])), (vs, .inl (T 0, 8, .inl (fun k => nI (yv k)))), (es, .inl (T 1, 8, .inr (.inl (fun k => edge (yv k))))), (ol, .inl (T 1, 1, .inr (.inl (fun k => ou k))))] := hD
  refine lv_astore (lv' := [(4, .ref q9), (0, .ref x), (1, .int (nI p)), (2, .int x0), (3, .ref ol)]) hx hb dL_grow_17 hl (by decide) rfl (fun ls hl => ?_)
  refine lv_iconst (v := 2) hx hb dL_grow_19 (by decide) ?_
  refine zc_more (cells' := 1) (slots' := 6) (Nat.le_of_ble_eq_true rfl) (Nat.le_of_ble_eq_true rfl) ?_
  exact zh_iret () hx hb hr hlocks dL_grow_20 hP hD hS (rfl) (rfl)
set_option maxRecDepth 20000 in
theorem w_eightfold_big (l : Launch) (hlf : l.stackTraces = false) (D : va_G) (T : Nat → ClassId) (x vs es o t : Nat) (yv : Nat → Nat) (ol : Nat) (ou : Nat → Int64) (p : Nat) (hp : p < 8) (p2 : Nat) (hp2 : p2 < 8) (he : 65535 < eig (yv p)) (hy : ∀ k, yv k < 262144) : Cm l yL_eightfold cL_eightfold 5 (some FieldType.int) [((0 : Nat), (17 : Nat), (20 : Nat), (13 : Nat)), ((0 : Nat), (17 : Nat), (24 : Nat), (42 : Nat))] 8 D T [.ref x, .int (nI p), .int (nI p2), .ref ol] [(x, .inr (3, [.ref vs, .ref es, .ref o, .ref t])), (vs, .inl (T 0, 8, .inl (fun k => nI (yv k)))), (es, .inl (T 1, 8, .inr (.inl (fun k => edge (yv k))))), (ol, .inl (T 1, 1, .inr (.inl (fun k => ou k))))] (some (.int 2)) (fun _ : Unit => [(x, .inr (3, [.ref vs, .ref es, .ref o, .ref t])), (vs, .inl (T 0, 8, .inl (fun k => nI (yv k)))), (es, .inl (T 1, 8, .inr (.inl (fun k => edge (yv k))))), (ol, .inl (T 1, 1, .inr (.inl (fun k => ou k))))]) := by
  refine Cm.of (by decide) (Nat.le_of_ble_eq_true rfl) ?_
  intro zp ze s zm args below zmeth zc hx hb hr hml hown hts hlocks htab A hA hP hK hD hS hZ hN ls hl
  have hl : lv_has ls 5 [(0, .ref x), (1, .int (nI p)), (2, .int (nI p2)), (3, .ref ol)] := hl
  refine lv_aload_n hx hb dL_eightfold_0 rfl (lv_at hl 3 rfl) ?_
  refine lv_iconst (v := 0) hx hb dL_eightfold_1 (by decide) ?_
  refine lv_aload_n hx hb dL_eightfold_2 rfl (lv_at hl 0 rfl) ?_
  refine lv_iload_n hx hb dL_eightfold_3 rfl (lv_at hl 1 rfl) ?_
  refine lv_iload_n hx hb dL_eightfold_4 rfl (lv_at hl 2 rfl) ?_
  refine zt_v (T := T) hx hb hml hown hts k_L_55 (t_X7_eightfold_big l hlf D T x vs es o t yv p hp p2 hp2 he hy) ⟨by decide, by decide⟩ rfl hl.1 [.int 0, .ref ol] rfl (Nat.le_of_ble_eq_true rfl) dL_eightfold_5 ⟨Nat.le_of_ble_eq_true rfl, Nat.le_of_ble_eq_true rfl⟩ hK hP hD hS hA hZ (ci := 3) rfl rfl rfl [0, 1, 2] [3] (wr := [(ol, .inl (T 1, 1, .inr (.inl (fun k => ou k))))]) rfl rfl (by decide) (by decide) (by decide) [1, 2, 3, 0] (by decide) rfl (fun ce q9 H locs hP hD hS hce hcv hcl => ?_)
  refine zc_catch (hh := [((0 : Nat), (17 : Nat), (20 : Nat), (13 : Nat)), ((0 : Nat), (17 : Nat), (24 : Nat), (42 : Nat))]) (E := "java/lang/ArithmeticException") hown hts htab hZ hN hce hcv hcl [(⟨0, 17, 20, 13⟩ : ExceptionTableEntry)] (⟨0, 17, 24, 42⟩ : ExceptionTableEntry) [] rfl (fun z hz => by rw [List.mem_singleton.mp hz]; exact ⟨by decide, "java/lang/IndexOutOfBoundsException", u336, by decide⟩) (by decide) (by decide) u507 cs_519 ?_
  have hP : va_P D zcl [(x, .inr (3, [.ref vs, .ref es, .ref o, .ref t])), (vs, .inl (T 0, 8, .inl (fun k => nI (yv k)))), (es, .inl (T 1, 8, .inr (.inl (fun k => edge (yv k))))), (ol, .inl (T 1, 1, .inr (.inl (fun k => ou k))))] H := hP
  have hD : va_D A [(x, .inr (3, [.ref vs, .ref es, .ref o, .ref t])), (vs, .inl (T 0, 8, .inl (fun k => nI (yv k)))), (es, .inl (T 1, 8, .inr (.inl (fun k => edge (yv k))))), (ol, .inl (T 1, 1, .inr (.inl (fun k => ou k))))] := hD
  refine lv_astore (lv' := [(4, .ref q9), (0, .ref x), (1, .int (nI p)), (2, .int (nI p2)), (3, .ref ol)]) hx hb dL_eightfold_24 hl (by decide) rfl (fun ls hl => ?_)
  refine lv_iconst (v := 2) hx hb dL_eightfold_26 (by decide) ?_
  refine zc_more (cells' := 1) (slots' := 6) (Nat.le_of_ble_eq_true rfl) (Nat.le_of_ble_eq_true rfl) ?_
  exact zh_iret () hx hb hr hlocks dL_eightfold_27 hP hD hS (rfl) (rfl)
set_option maxRecDepth 20000 in
theorem w_eighth_odd (l : Launch) (hlf : l.stackTraces = false) (D : va_G) (T : Nat → ClassId) (x vs es o t : Nat) (yv : Nat → Nat) (ol : Nat) (ou : Nat → Int64) (p : Nat) (hp : p < 8) (p2 : Nat) (hp2 : p2 < 8) (he : ¬ eig (yv p) % 8 = 0) (hy : ∀ k, yv k < 262144) : Cm l yL_eighth cL_eighth 5 (some FieldType.int) [((0 : Nat), (17 : Nat), (20 : Nat), (13 : Nat)), ((0 : Nat), (17 : Nat), (24 : Nat), (42 : Nat))] 8 D T [.ref x, .int (nI p), .int (nI p2), .ref ol] [(x, .inr (3, [.ref vs, .ref es, .ref o, .ref t])), (vs, .inl (T 0, 8, .inl (fun k => nI (yv k)))), (es, .inl (T 1, 8, .inr (.inl (fun k => edge (yv k))))), (ol, .inl (T 1, 1, .inr (.inl (fun k => ou k))))] (some (.int 2)) (fun _ : Unit => [(x, .inr (3, [.ref vs, .ref es, .ref o, .ref t])), (vs, .inl (T 0, 8, .inl (fun k => nI (yv k)))), (es, .inl (T 1, 8, .inr (.inl (fun k => edge (yv k))))), (ol, .inl (T 1, 1, .inr (.inl (fun k => ou k))))]) := by
  refine Cm.of (by decide) (Nat.le_of_ble_eq_true rfl) ?_
  intro zp ze s zm args below zmeth zc hx hb hr hml hown hts hlocks htab A hA hP hK hD hS hZ hN ls hl
  have hl : lv_has ls 5 [(0, .ref x), (1, .int (nI p)), (2, .int (nI p2)), (3, .ref ol)] := hl
  refine lv_aload_n hx hb dL_eighth_0 rfl (lv_at hl 3 rfl) ?_
  refine lv_iconst (v := 0) hx hb dL_eighth_1 (by decide) ?_
  refine lv_aload_n hx hb dL_eighth_2 rfl (lv_at hl 0 rfl) ?_
  refine lv_iload_n hx hb dL_eighth_3 rfl (lv_at hl 1 rfl) ?_
  refine lv_iload_n hx hb dL_eighth_4 rfl (lv_at hl 2 rfl) ?_
  refine zt_v (T := T) hx hb hml hown hts k_L_58 (t_X7_eighth_odd l hlf D T x vs es o t yv p hp p2 hp2 he hy) ⟨by decide, by decide⟩ rfl hl.1 [.int 0, .ref ol] rfl (Nat.le_of_ble_eq_true rfl) dL_eighth_5 ⟨Nat.le_of_ble_eq_true rfl, Nat.le_of_ble_eq_true rfl⟩ hK hP hD hS hA hZ (ci := 3) rfl rfl rfl [0, 1, 2] [3] (wr := [(ol, .inl (T 1, 1, .inr (.inl (fun k => ou k))))]) rfl rfl (by decide) (by decide) (by decide) [1, 2, 3, 0] (by decide) rfl (fun ce q9 H locs hP hD hS hce hcv hcl => ?_)
  refine zc_catch (hh := [((0 : Nat), (17 : Nat), (20 : Nat), (13 : Nat)), ((0 : Nat), (17 : Nat), (24 : Nat), (42 : Nat))]) (E := "java/lang/ArithmeticException") hown hts htab hZ hN hce hcv hcl [(⟨0, 17, 20, 13⟩ : ExceptionTableEntry)] (⟨0, 17, 24, 42⟩ : ExceptionTableEntry) [] rfl (fun z hz => by rw [List.mem_singleton.mp hz]; exact ⟨by decide, "java/lang/IndexOutOfBoundsException", u336, by decide⟩) (by decide) (by decide) u507 cs_519 ?_
  have hP : va_P D zcl [(x, .inr (3, [.ref vs, .ref es, .ref o, .ref t])), (vs, .inl (T 0, 8, .inl (fun k => nI (yv k)))), (es, .inl (T 1, 8, .inr (.inl (fun k => edge (yv k))))), (ol, .inl (T 1, 1, .inr (.inl (fun k => ou k))))] H := hP
  have hD : va_D A [(x, .inr (3, [.ref vs, .ref es, .ref o, .ref t])), (vs, .inl (T 0, 8, .inl (fun k => nI (yv k)))), (es, .inl (T 1, 8, .inr (.inl (fun k => edge (yv k))))), (ol, .inl (T 1, 1, .inr (.inl (fun k => ou k))))] := hD
  refine lv_astore (lv' := [(4, .ref q9), (0, .ref x), (1, .int (nI p)), (2, .int (nI p2)), (3, .ref ol)]) hx hb dL_eighth_24 hl (by decide) rfl (fun ls hl => ?_)
  refine lv_iconst (v := 2) hx hb dL_eighth_26 (by decide) ?_
  refine zc_more (cells' := 1) (slots' := 6) (Nat.le_of_ble_eq_true rfl) (Nat.le_of_ble_eq_true rfl) ?_
  exact zh_iret () hx hb hr hlocks dL_eighth_27 hP hD hS (rfl) (rfl)
set_option maxRecDepth 20000 in
theorem w_add_big (l : Launch) (hlf : l.stackTraces = false) (D : va_G) (T : Nat → ClassId) (x vs es o t : Nat) (yv : Nat → Nat) (ol : Nat) (ou : Nat → Int64) (p : Nat) (hp : p < 8) (p2 : Nat) (hp2 : p2 < 8) (p3 : Nat) (hp3 : p3 < 8) (hv1 : isB (yv p) = false) (hv2 : isB (yv p2) = false) (hc1 : 0 < yv p / 4) (hc2 : 0 < yv p2 / 4) (hr0 : 65535 < rdC (eig (yv p) + eig (yv p2))) (hy : ∀ k, yv k < 262144) : Cm l yL_add cL_add 6 (some FieldType.int) [((0 : Nat), (19 : Nat), (22 : Nat), (13 : Nat)), ((0 : Nat), (19 : Nat), (26 : Nat), (15 : Nat)), ((0 : Nat), (19 : Nat), (30 : Nat), (42 : Nat))] 8 D T [.ref x, .int (nI p), .int (nI p2), .int (nI p3), .ref ol] [(x, .inr (3, [.ref vs, .ref es, .ref o, .ref t])), (vs, .inl (T 0, 8, .inl (fun k => nI (yv k)))), (es, .inl (T 1, 8, .inr (.inl (fun k => edge (yv k))))), (ol, .inl (T 1, 1, .inr (.inl (fun k => ou k))))] (some (.int 3)) (fun _ : Unit => [(x, .inr (3, [.ref vs, .ref es, .ref o, .ref t])), (vs, .inl (T 0, 8, .inl (fun k => nI (yv k)))), (es, .inl (T 1, 8, .inr (.inl (fun k => edge (yv k))))), (ol, .inl (T 1, 1, .inr (.inl (fun k => ou k))))]) := by
  refine Cm.of (by decide) (Nat.le_of_ble_eq_true rfl) ?_
  intro zp ze s zm args below zmeth zc hx hb hr hml hown hts hlocks htab A hA hP hK hD hS hZ hN ls hl
  have hl : lv_has ls 6 [(0, .ref x), (1, .int (nI p)), (2, .int (nI p2)), (3, .int (nI p3)), (4, .ref ol)] := hl
  refine lv_aload hx hb dL_add_0 (lv_at hl 4 rfl) ?_
  refine lv_iconst (v := 0) hx hb dL_add_2 (by decide) ?_
  refine lv_aload_n hx hb dL_add_3 rfl (lv_at hl 0 rfl) ?_
  refine lv_iload_n hx hb dL_add_4 rfl (lv_at hl 1 rfl) ?_
  refine lv_iload_n hx hb dL_add_5 rfl (lv_at hl 2 rfl) ?_
  refine lv_iload_n hx hb dL_add_6 rfl (lv_at hl 3 rfl) ?_
  refine zt_v (T := T) hx hb hml hown hts k_L_68 (t_X7_add_big l hlf D T x vs es o t yv p hp p2 hp2 p3 hp3 hv1 hv2 hc1 hc2 hr0 hy) ⟨by decide, by decide⟩ rfl hl.1 [.int 0, .ref ol] rfl (Nat.le_of_ble_eq_true rfl) dL_add_7 ⟨Nat.le_of_ble_eq_true rfl, Nat.le_of_ble_eq_true rfl⟩ hK hP hD hS hA hZ (ci := 3) rfl rfl rfl [0, 1, 2] [3] (wr := [(ol, .inl (T 1, 1, .inr (.inl (fun k => ou k))))]) rfl rfl (by decide) (by decide) (by decide) [1, 2, 3, 0] (by decide) rfl (fun ce q9 H locs hP hD hS hce hcv hcl => ?_)
  refine zc_catch (hh := [((0 : Nat), (19 : Nat), (22 : Nat), (13 : Nat)), ((0 : Nat), (19 : Nat), (26 : Nat), (15 : Nat)), ((0 : Nat), (19 : Nat), (30 : Nat), (42 : Nat))]) (E := "java/lang/ArithmeticException") hown hts htab hZ hN hce hcv hcl [(⟨0, 19, 22, 13⟩ : ExceptionTableEntry), (⟨0, 19, 26, 15⟩ : ExceptionTableEntry)] (⟨0, 19, 30, 42⟩ : ExceptionTableEntry) [] rfl (fun z hz => by (rcases List.mem_cons.mp hz with h9 | h9); (rw [h9]; exact ⟨by decide, "java/lang/IndexOutOfBoundsException", u336, by decide⟩); (rw [List.mem_singleton.mp h9]; exact ⟨by decide, "java/lang/IllegalArgumentException", u415, by decide⟩)) (by decide) (by decide) u507 cs_519 ?_
  have hP : va_P D zcl [(x, .inr (3, [.ref vs, .ref es, .ref o, .ref t])), (vs, .inl (T 0, 8, .inl (fun k => nI (yv k)))), (es, .inl (T 1, 8, .inr (.inl (fun k => edge (yv k))))), (ol, .inl (T 1, 1, .inr (.inl (fun k => ou k))))] H := hP
  have hD : va_D A [(x, .inr (3, [.ref vs, .ref es, .ref o, .ref t])), (vs, .inl (T 0, 8, .inl (fun k => nI (yv k)))), (es, .inl (T 1, 8, .inr (.inl (fun k => edge (yv k))))), (ol, .inl (T 1, 1, .inr (.inl (fun k => ou k))))] := hD
  refine lv_astore (lv' := [(5, .ref q9), (0, .ref x), (1, .int (nI p)), (2, .int (nI p2)), (3, .int (nI p3)), (4, .ref ol)]) hx hb dL_add_30 hl (by decide) rfl (fun ls hl => ?_)
  refine lv_iconst (v := 3) hx hb dL_add_32 (by decide) ?_
  refine zc_more (cells' := 1) (slots' := 6) (Nat.le_of_ble_eq_true rfl) (Nat.le_of_ble_eq_true rfl) ?_
  exact zh_iret () hx hb hr hlocks dL_add_33 hP hD hS (rfl) (rfl)
set_option maxRecDepth 20000 in
theorem w_add_zero (l : Launch) (hlf : l.stackTraces = false) (D : va_G) (T : Nat → ClassId) (x vs es o t : Nat) (yv : Nat → Nat) (ol : Nat) (ou : Nat → Int64) (p : Nat) (hp : p < 8) (p2 : Nat) (hp2 : p2 < 8) (p3 : Nat) (hp3 : p3 < 8) (hv0 : ¬ (isB (yv p) = false ∧ isB (yv p2) = false ∧ ¬ yv p / 4 = 0 ∧ ¬ yv p2 / 4 = 0)) (hy : ∀ k, yv k < 262144) : Cm l yL_add cL_add 6 (some FieldType.int) [((0 : Nat), (19 : Nat), (22 : Nat), (13 : Nat)), ((0 : Nat), (19 : Nat), (26 : Nat), (15 : Nat)), ((0 : Nat), (19 : Nat), (30 : Nat), (42 : Nat))] 8 D T [.ref x, .int (nI p), .int (nI p2), .int (nI p3), .ref ol] [(x, .inr (3, [.ref vs, .ref es, .ref o, .ref t])), (vs, .inl (T 0, 8, .inl (fun k => nI (yv k)))), (es, .inl (T 1, 8, .inr (.inl (fun k => edge (yv k))))), (ol, .inl (T 1, 1, .inr (.inl (fun k => ou k))))] (some (.int 2)) (fun _ : Unit => [(x, .inr (3, [.ref vs, .ref es, .ref o, .ref t])), (vs, .inl (T 0, 8, .inl (fun k => nI (yv k)))), (es, .inl (T 1, 8, .inr (.inl (fun k => edge (yv k))))), (ol, .inl (T 1, 1, .inr (.inl (fun k => ou k))))]) := by
  refine Cm.of (by decide) (Nat.le_of_ble_eq_true rfl) ?_
  intro zp ze s zm args below zmeth zc hx hb hr hml hown hts hlocks htab A hA hP hK hD hS hZ hN ls hl
  have hl : lv_has ls 6 [(0, .ref x), (1, .int (nI p)), (2, .int (nI p2)), (3, .int (nI p3)), (4, .ref ol)] := hl
  refine lv_aload hx hb dL_add_0 (lv_at hl 4 rfl) ?_
  refine lv_iconst (v := 0) hx hb dL_add_2 (by decide) ?_
  refine lv_aload_n hx hb dL_add_3 rfl (lv_at hl 0 rfl) ?_
  refine lv_iload_n hx hb dL_add_4 rfl (lv_at hl 1 rfl) ?_
  refine lv_iload_n hx hb dL_add_5 rfl (lv_at hl 2 rfl) ?_
  refine lv_iload_n hx hb dL_add_6 rfl (lv_at hl 3 rfl) ?_
  refine zt_v (T := T) hx hb hml hown hts k_L_68 (t_X7_add_zero l hlf D T x vs es o t yv p hp p2 hp2 p3 hp3 hv0 hy) ⟨by decide, by decide⟩ rfl hl.1 [.int 0, .ref ol] rfl (Nat.le_of_ble_eq_true rfl) dL_add_7 ⟨Nat.le_of_ble_eq_true rfl, Nat.le_of_ble_eq_true rfl⟩ hK hP hD hS hA hZ (ci := 3) rfl rfl rfl [0, 1, 2] [3] (wr := [(ol, .inl (T 1, 1, .inr (.inl (fun k => ou k))))]) rfl rfl (by decide) (by decide) (by decide) [1, 2, 3, 0] (by decide) rfl (fun ce q9 H locs hP hD hS hce hcv hcl => ?_)
  refine zc_catch (hh := [((0 : Nat), (19 : Nat), (22 : Nat), (13 : Nat)), ((0 : Nat), (19 : Nat), (26 : Nat), (15 : Nat)), ((0 : Nat), (19 : Nat), (30 : Nat), (42 : Nat))]) (E := "java/lang/IllegalArgumentException") hown hts htab hZ hN hce hcv hcl [(⟨0, 19, 22, 13⟩ : ExceptionTableEntry)] (⟨0, 19, 26, 15⟩ : ExceptionTableEntry) [(⟨0, 19, 30, 42⟩ : ExceptionTableEntry)] rfl (fun z hz => by rw [List.mem_singleton.mp hz]; exact ⟨by decide, "java/lang/IndexOutOfBoundsException", u336, by decide⟩) (by decide) (by decide) u415 cs_439 ?_
  have hP : va_P D zcl [(x, .inr (3, [.ref vs, .ref es, .ref o, .ref t])), (vs, .inl (T 0, 8, .inl (fun k => nI (yv k)))), (es, .inl (T 1, 8, .inr (.inl (fun k => edge (yv k))))), (ol, .inl (T 1, 1, .inr (.inl (fun k => ou k))))] H := hP
  have hD : va_D A [(x, .inr (3, [.ref vs, .ref es, .ref o, .ref t])), (vs, .inl (T 0, 8, .inl (fun k => nI (yv k)))), (es, .inl (T 1, 8, .inr (.inl (fun k => edge (yv k))))), (ol, .inl (T 1, 1, .inr (.inl (fun k => ou k))))] := hD
  refine lv_astore (lv' := [(5, .ref q9), (0, .ref x), (1, .int (nI p)), (2, .int (nI p2)), (3, .int (nI p3)), (4, .ref ol)]) hx hb dL_add_26 hl (by decide) rfl (fun ls hl => ?_)
  refine lv_iconst (v := 2) hx hb dL_add_28 (by decide) ?_
  refine zc_more (cells' := 1) (slots' := 6) (Nat.le_of_ble_eq_true rfl) (Nat.le_of_ble_eq_true rfl) ?_
  exact zh_iret () hx hb hr hlocks dL_add_29 hP hD hS (rfl) (rfl)
set_option maxRecDepth 20000 in
theorem w_coarse_ok (l : Launch) (hlf : l.stackTraces = false) (D : va_G) (T : Nat → ClassId) (x vs es o t : Nat) (yv : Nat → Nat) (od0 : Nat) (od : Nat → UInt64) (p : Nat) (hp : p < 8) (hy : ∀ k, yv k < 262144) : Cm l yL_coarse cL_coarse 4 (some FieldType.int) [((0 : Nat), (8 : Nat), (11 : Nat), (13 : Nat))] 8 D T [.ref x, .int (nI p), .ref od0] [(x, .inr (3, [.ref vs, .ref es, .ref o, .ref t])), (vs, .inl (T 0, 8, .inl (fun k => nI (yv k)))), (es, .inl (T 1, 8, .inr (.inl (fun k => edge (yv k))))), (od0, .inl (T 3, 1, .inr (.inr (.inr (.inl (fun k => od k))))))] (some (.int 0)) (fun _ : Unit => [(x, .inr (3, [.ref vs, .ref es, .ref o, .ref t])), (vs, .inl (T 0, 8, .inl (fun k => nI (yv k)))), (es, .inl (T 1, 8, .inr (.inl (fun k => edge (yv k))))), (od0, .inl (T 3, 1, .inr (.inr (.inr (.inl (fun k => (oD (FP.ddiv (FP.i2d (fI (yv p))) 4652218415073722368) od) k))))))]) := by
  refine Cm.of (by decide) (Nat.le_of_ble_eq_true rfl) ?_
  intro zp ze s zm args below zmeth zc hx hb hr hml hown hts hlocks htab A hA hP hK hD hS hZ hN ls hl
  have hl : lv_has ls 4 [(0, .ref x), (1, .int (nI p)), (2, .ref od0)] := hl
  refine lv_aload_n hx hb dL_coarse_0 rfl (lv_at hl 2 rfl) ?_
  refine lv_iconst (v := 0) hx hb dL_coarse_1 (by decide) ?_
  refine lv_aload_n hx hb dL_coarse_2 rfl (lv_at hl 0 rfl) ?_
  refine lv_iload_n hx hb dL_coarse_3 rfl (lv_at hl 1 rfl) ?_
  refine zh_v (T := T) hx hb hml hown hts k_L_30 (c_X7_coarse_ok l D T x vs es o t yv p hp hy) ⟨by decide, by decide⟩ rfl hl.1 [.int 0, .ref od0] rfl (Nat.le_of_ble_eq_true rfl) dL_coarse_4 ⟨Nat.le_of_ble_eq_true rfl, Nat.le_of_ble_eq_true rfl⟩ hK hP hD hS hA (ci := 3) rfl rfl rfl [0, 1, 2] [3] (wr := [(od0, .inl (T 3, 1, .inr (.inr (.inr (.inl (fun k => od k))))))]) rfl rfl (by decide) (by decide) (by decide) [1, 2, 3, 0] (fun _ => [(x, .inr (3, [.ref vs, .ref es, .ref o, .ref t])), (vs, .inl (T 0, 8, .inl (fun k => nI (yv k)))), (es, .inl (T 1, 8, .inr (.inl (fun k => edge (yv k))))), (od0, .inl (T 3, 1, .inr (.inr (.inr (.inl (fun k => od k))))))]) (by decide) (fun _ => rfl) (fun _ H locs hP hD hS => ?_)
  have hP : va_P D zcl [(x, .inr (3, [.ref vs, .ref es, .ref o, .ref t])), (vs, .inl (T 0, 8, .inl (fun k => nI (yv k)))), (es, .inl (T 1, 8, .inr (.inl (fun k => edge (yv k))))), (od0, .inl (T 3, 1, .inr (.inr (.inr (.inl (fun k => od k))))))] H := hP
  have hD : va_D A [(x, .inr (3, [.ref vs, .ref es, .ref o, .ref t])), (vs, .inl (T 0, 8, .inl (fun k => nI (yv k)))), (es, .inl (T 1, 8, .inr (.inl (fun k => edge (yv k))))), (od0, .inl (T 3, 1, .inr (.inr (.inr (.inl (fun k => od k))))))] := hD
  refine za_dast hx hb hK hP hD hS 3 rfl 0 (rfl) (by decide) (by decide) (fun k => oD (FP.ddiv (FP.i2d (fI (yv p))) 4652218415073722368) od k) (fun _ => rfl) dL_coarse_7 (fun H locs hP hD hS => ?_)
  have hP : va_P D zcl [(x, .inr (3, [.ref vs, .ref es, .ref o, .ref t])), (vs, .inl (T 0, 8, .inl (fun k => nI (yv k)))), (es, .inl (T 1, 8, .inr (.inl (fun k => edge (yv k))))), (od0, .inl (T 3, 1, .inr (.inr (.inr (.inl (fun k => oD (FP.ddiv (FP.i2d (fI (yv p))) 4652218415073722368) od k))))))] H := hP
  have hD : va_D A [(x, .inr (3, [.ref vs, .ref es, .ref o, .ref t])), (vs, .inl (T 0, 8, .inl (fun k => nI (yv k)))), (es, .inl (T 1, 8, .inr (.inl (fun k => edge (yv k))))), (od0, .inl (T 3, 1, .inr (.inr (.inr (.inl (fun k => oD (FP.ddiv (FP.i2d (fI (yv p))) 4652218415073722368) od k))))))] := hD
  refine lv_goto (tgt := 14) hx hb dL_coarse_8 (by decide) ?_
  refine lv_iconst (v := 0) hx hb dL_coarse_14 (by decide) ?_
  refine zc_more (cells' := 1) (slots' := 6) (Nat.le_of_ble_eq_true rfl) (Nat.le_of_ble_eq_true rfl) ?_
  exact zh_iret () hx hb hr hlocks dL_coarse_15 hP hD hS (rfl) (rfl)
set_option maxRecDepth 20000 in
theorem w_coarse_no (l : Launch) (hlf : l.stackTraces = false) (D : va_G) (T : Nat → ClassId) (x vs es o t : Nat) (yv : Nat → Nat) (od0 : Nat) (od : Nat → UInt64) (x0 : Int32) (hx0 : m_X8_is x0 = false) : Cm l yL_coarse cL_coarse 4 (some FieldType.int) [((0 : Nat), (8 : Nat), (11 : Nat), (13 : Nat))] 8 D T [.ref x, .int x0, .ref od0] [(x, .inr (3, [.ref vs, .ref es, .ref o, .ref t])), (vs, .inl (T 0, 8, .inl (fun k => nI (yv k)))), (es, .inl (T 1, 8, .inr (.inl (fun k => edge (yv k))))), (od0, .inl (T 3, 1, .inr (.inr (.inr (.inl (fun k => od k))))))] (some (.int 1)) (fun _ : Unit => [(x, .inr (3, [.ref vs, .ref es, .ref o, .ref t])), (vs, .inl (T 0, 8, .inl (fun k => nI (yv k)))), (es, .inl (T 1, 8, .inr (.inl (fun k => edge (yv k))))), (od0, .inl (T 3, 1, .inr (.inr (.inr (.inl (fun k => od k))))))]) := by
  refine Cm.of (by decide) (Nat.le_of_ble_eq_true rfl) ?_
  intro zp ze s zm args below zmeth zc hx hb hr hml hown hts hlocks htab A hA hP hK hD hS hZ hN ls hl
  have hl : lv_has ls 4 [(0, .ref x), (1, .int x0), (2, .ref od0)] := hl
  refine lv_aload_n hx hb dL_coarse_0 rfl (lv_at hl 2 rfl) ?_
  refine lv_iconst (v := 0) hx hb dL_coarse_1 (by decide) ?_
  refine lv_aload_n hx hb dL_coarse_2 rfl (lv_at hl 0 rfl) ?_
  refine lv_iload_n hx hb dL_coarse_3 rfl (lv_at hl 1 rfl) ?_
  refine zt_v (T := T) hx hb hml hown hts k_L_30 (t_X7_coarse_no l hlf D T x vs es o t yv x0 hx0) ⟨by decide, by decide⟩ rfl hl.1 [.int 0, .ref od0] rfl (Nat.le_of_ble_eq_true rfl) dL_coarse_4 ⟨Nat.le_of_ble_eq_true rfl, Nat.le_of_ble_eq_true rfl⟩ hK hP hD hS hA hZ (ci := 3) rfl rfl rfl [0, 1, 2] [3] (wr := [(od0, .inl (T 3, 1, .inr (.inr (.inr (.inl (fun k => od k))))))]) rfl rfl (by decide) (by decide) (by decide) [1, 2, 3, 0] (by decide) rfl (fun ce q9 H locs hP hD hS hce hcv hcl => ?_)
  refine zc_catch (hh := [((0 : Nat), (8 : Nat), (11 : Nat), (13 : Nat))]) (E := "java/lang/IndexOutOfBoundsException") hown hts htab hZ hN hce hcv hcl [] (⟨0, 8, 11, 13⟩ : ExceptionTableEntry) [] rfl (fun z hz => nomatch hz) (by decide) (by decide) u336 cs_425 ?_
  have hP : va_P D zcl [(x, .inr (3, [.ref vs, .ref es, .ref o, .ref t])), (vs, .inl (T 0, 8, .inl (fun k => nI (yv k)))), (es, .inl (T 1, 8, .inr (.inl (fun k => edge (yv k))))), (od0, .inl (T 3, 1, .inr (.inr (.inr (.inl (fun k => od k))))))] H := hP
  have hD : va_D A [(x, .inr (3, [.ref vs, .ref es, .ref o, .ref t])), (vs, .inl (T 0, 8, .inl (fun k => nI (yv k)))), (es, .inl (T 1, 8, .inr (.inl (fun k => edge (yv k))))), (od0, .inl (T 3, 1, .inr (.inr (.inr (.inl (fun k => od k))))))] := hD
  refine lv_astore_n (lv' := [(3, .ref q9), (0, .ref x), (1, .int x0), (2, .ref od0)]) hx hb dL_coarse_11 rfl hl (by decide) rfl (fun ls hl => ?_)
  refine lv_iconst (v := 1) hx hb dL_coarse_12 (by decide) ?_
  refine zc_more (cells' := 1) (slots' := 6) (Nat.le_of_ble_eq_true rfl) (Nat.le_of_ble_eq_true rfl) ?_
  exact zh_iret () hx hb hr hlocks dL_coarse_13 hP hD hS (rfl) (rfl)
set_option maxRecDepth 20000 in
theorem w_find_ok (l : Launch) (hlf : l.stackTraces = false) (D : va_G) (T : Nat → ClassId) (x vs es o t : Nat) (ol : Nat) (ou : Nat → Int64) (x0 : Int32) (b : Bool) (C : Nat) (hF : fits0 x0 b C) : Cm l yL_find cL_find 5 (some FieldType.int) [((0 : Nat), (10 : Nat), (13 : Nat), (42 : Nat))] 8 D T [.ref x, .int x0, .int (bI b), .ref ol] [(x, .inr (3, [.ref vs, .ref es, .ref o, .ref t])), (ol, .inl (T 1, 1, .inr (.inl (fun k => ou k))))] (some (.int 0)) (fun _ : Unit => [(x, .inr (3, [.ref vs, .ref es, .ref o, .ref t])), (ol, .inl (T 1, 1, .inr (.inl (fun k => (oS (Int32.toInt64 (nI C)) ou) k))))]) := by
  refine Cm.of (by decide) (Nat.le_of_ble_eq_true rfl) ?_
  intro zp ze s zm args below zmeth zc hx hb hr hml hown hts hlocks htab A hA hP hK hD hS hZ hN ls hl
  have hl : lv_has ls 5 [(0, .ref x), (1, .int x0), (2, .int (bI b)), (3, .ref ol)] := hl
  refine lv_aload_n hx hb dL_find_0 rfl (lv_at hl 3 rfl) ?_
  refine lv_iconst (v := 0) hx hb dL_find_1 (by decide) ?_
  refine lv_aload_n hx hb dL_find_2 rfl (lv_at hl 0 rfl) ?_
  refine lv_iload_n hx hb dL_find_3 rfl (lv_at hl 1 rfl) ?_
  refine lv_iload_n hx hb dL_find_4 rfl (lv_at hl 2 rfl) ?_
  refine zh_v (T := T) hx hb hml hown hts k_L_71 (c_X7_find_ok l D T x vs es o t x0 b C hF) ⟨by decide, by decide⟩ rfl hl.1 [.int 0, .ref ol] rfl (Nat.le_of_ble_eq_true rfl) dL_find_5 ⟨Nat.le_of_ble_eq_true rfl, Nat.le_of_ble_eq_true rfl⟩ hK hP hD hS hA (ci := 3) rfl rfl rfl [0] [1] (wr := [(ol, .inl (T 1, 1, .inr (.inl (fun k => ou k))))]) rfl rfl (by decide) (by decide) (by decide) [1, 0] (fun _ => [(x, .inr (3, [.ref vs, .ref es, .ref o, .ref t])), (ol, .inl (T 1, 1, .inr (.inl (fun k => ou k))))]) (by decide) (fun _ => rfl) (fun _ H locs hP hD hS => ?_)
  have hP : va_P D zcl [(x, .inr (3, [.ref vs, .ref es, .ref o, .ref t])), (ol, .inl (T 1, 1, .inr (.inl (fun k => ou k))))] H := hP
  have hD : va_D A [(x, .inr (3, [.ref vs, .ref es, .ref o, .ref t])), (ol, .inl (T 1, 1, .inr (.inl (fun k => ou k))))] := hD
  refine lv_i2l hx hb dL_find_8 rfl ?_
  refine zf_l (x' := Int32.toInt64 (nI C)) (rfl) ?_
  refine za_last hx hb hK hP hD hS 1 rfl 0 (rfl) (by decide) (by decide) (fun k => oS (Int32.toInt64 (nI C)) ou k) (fun _ => rfl) dL_find_9 (fun H locs hP hD hS => ?_)
  have hP : va_P D zcl [(x, .inr (3, [.ref vs, .ref es, .ref o, .ref t])), (ol, .inl (T 1, 1, .inr (.inl (fun k => oS (Int32.toInt64 (nI C)) ou k))))] H := hP
  have hD : va_D A [(x, .inr (3, [.ref vs, .ref es, .ref o, .ref t])), (ol, .inl (T 1, 1, .inr (.inl (fun k => oS (Int32.toInt64 (nI C)) ou k))))] := hD
  refine lv_goto (tgt := 17) hx hb dL_find_10 (by decide) ?_
  refine lv_iconst (v := 0) hx hb dL_find_17 (by decide) ?_
  refine zc_more (cells' := 1) (slots' := 6) (Nat.le_of_ble_eq_true rfl) (Nat.le_of_ble_eq_true rfl) ?_
  exact zh_iret () hx hb hr hlocks dL_find_18 hP hD hS (rfl) (rfl)
set_option maxRecDepth 20000 in
theorem w_find_no (l : Launch) (hlf : l.stackTraces = false) (D : va_G) (T : Nat → ClassId) (x vs es o t : Nat) (ol : Nat) (ou : Nat → Int64) (x0 : Int32) (b : Bool) (hF : ¬ x0 ≤ nI (fN (eig (mk 65535 b false)))) : Cm l yL_find cL_find 5 (some FieldType.int) [((0 : Nat), (10 : Nat), (13 : Nat), (42 : Nat))] 8 D T [.ref x, .int x0, .int (bI b), .ref ol] [(x, .inr (3, [.ref vs, .ref es, .ref o, .ref t])), (ol, .inl (T 1, 1, .inr (.inl (fun k => ou k))))] (some (.int 1)) (fun _ : Unit => [(x, .inr (3, [.ref vs, .ref es, .ref o, .ref t])), (ol, .inl (T 1, 1, .inr (.inl (fun k => ou k))))]) := by
  refine Cm.of (by decide) (Nat.le_of_ble_eq_true rfl) ?_
  intro zp ze s zm args below zmeth zc hx hb hr hml hown hts hlocks htab A hA hP hK hD hS hZ hN ls hl
  have hl : lv_has ls 5 [(0, .ref x), (1, .int x0), (2, .int (bI b)), (3, .ref ol)] := hl
  refine lv_aload_n hx hb dL_find_0 rfl (lv_at hl 3 rfl) ?_
  refine lv_iconst (v := 0) hx hb dL_find_1 (by decide) ?_
  refine lv_aload_n hx hb dL_find_2 rfl (lv_at hl 0 rfl) ?_
  refine lv_iload_n hx hb dL_find_3 rfl (lv_at hl 1 rfl) ?_
  refine lv_iload_n hx hb dL_find_4 rfl (lv_at hl 2 rfl) ?_
  refine zt_v (T := T) hx hb hml hown hts k_L_71 (t_X7_find_no l hlf D T x vs es o t x0 b hF) ⟨by decide, by decide⟩ rfl hl.1 [.int 0, .ref ol] rfl (Nat.le_of_ble_eq_true rfl) dL_find_5 ⟨Nat.le_of_ble_eq_true rfl, Nat.le_of_ble_eq_true rfl⟩ hK hP hD hS hA hZ (ci := 3) rfl rfl rfl [0] [1] (wr := [(ol, .inl (T 1, 1, .inr (.inl (fun k => ou k))))]) rfl rfl (by decide) (by decide) (by decide) [1, 0] (by decide) rfl (fun ce q9 H locs hP hD hS hce hcv hcl => ?_)
  refine zc_catch (hh := [((0 : Nat), (10 : Nat), (13 : Nat), (42 : Nat))]) (E := "java/lang/ArithmeticException") hown hts htab hZ hN hce hcv hcl [] (⟨0, 10, 13, 42⟩ : ExceptionTableEntry) [] rfl (fun z hz => nomatch hz) (by decide) (by decide) u507 cs_519 ?_
  have hP : va_P D zcl [(x, .inr (3, [.ref vs, .ref es, .ref o, .ref t])), (ol, .inl (T 1, 1, .inr (.inl (fun k => ou k))))] H := hP
  have hD : va_D A [(x, .inr (3, [.ref vs, .ref es, .ref o, .ref t])), (ol, .inl (T 1, 1, .inr (.inl (fun k => ou k))))] := hD
  refine lv_astore (lv' := [(4, .ref q9), (0, .ref x), (1, .int x0), (2, .int (bI b)), (3, .ref ol)]) hx hb dL_find_13 hl (by decide) rfl (fun ls hl => ?_)
  refine lv_iconst (v := 1) hx hb dL_find_15 (by decide) ?_
  refine zc_more (cells' := 1) (slots' := 6) (Nat.le_of_ble_eq_true rfl) (Nat.le_of_ble_eq_true rfl) ?_
  exact zh_iret () hx hb hr hlocks dL_find_16 hP hD hS (rfl) (rfl)
set_option maxRecDepth 20000 in
theorem w_sum_ok (l : Launch) (hlf : l.stackTraces = false) (D : va_G) (T : Nat → ClassId) (x vs es o t : Nat) (ol : Nat) (ou : Nat → Int64) (k0 : Nat) (hk : k0 ≤ 256) (x0 : Int32) (f : Nat) (hxx : 0 < k0 → x0 = nI f ∧ f + k0 ≤ 65536) : Cm l yL_sum cL_sum 5 (some FieldType.int) [((0 : Nat), (10 : Nat), (13 : Nat), (15 : Nat))] 8 D T [.ref x, .int x0, .int (nI k0), .ref ol] [(x, .inr (3, [.ref vs, .ref es, .ref o, .ref t])), (ol, .inl (T 1, 1, .inr (.inl (fun k => ou k))))] (some (.int 0)) (fun _ : Unit => [(x, .inr (3, [.ref vs, .ref es, .ref o, .ref t])), (ol, .inl (T 1, 1, .inr (.inl (fun k => (oS (Int32.toInt64 (nI (smN f k0))) ou) k))))]) := by
  refine Cm.of (by decide) (Nat.le_of_ble_eq_true rfl) ?_
  intro zp ze s zm args below zmeth zc hx hb hr hml hown hts hlocks htab A hA hP hK hD hS hZ hN ls hl
  have hl : lv_has ls 5 [(0, .ref x), (1, .int x0), (2, .int (nI k0)), (3, .ref ol)] := hl
  refine lv_aload_n hx hb dL_sum_0 rfl (lv_at hl 3 rfl) ?_
  refine lv_iconst (v := 0) hx hb dL_sum_1 (by decide) ?_
  refine lv_aload_n hx hb dL_sum_2 rfl (lv_at hl 0 rfl) ?_
  refine lv_iload_n hx hb dL_sum_3 rfl (lv_at hl 1 rfl) ?_
  refine lv_iload_n hx hb dL_sum_4 rfl (lv_at hl 2 rfl) ?_
  refine zh_v (T := T) hx hb hml hown hts k_L_75 (c_X7_sum_ok l D T x vs es o t k0 hk x0 f hxx) ⟨by decide, by decide⟩ rfl hl.1 [.int 0, .ref ol] rfl (Nat.le_of_ble_eq_true rfl) dL_sum_5 ⟨Nat.le_of_ble_eq_true rfl, Nat.le_of_ble_eq_true rfl⟩ hK hP hD hS hA (ci := 3) rfl rfl rfl [0] [1] (wr := [(ol, .inl (T 1, 1, .inr (.inl (fun k => ou k))))]) rfl rfl (by decide) (by decide) (by decide) [1, 0] (fun _ => [(x, .inr (3, [.ref vs, .ref es, .ref o, .ref t])), (ol, .inl (T 1, 1, .inr (.inl (fun k => ou k))))]) (by decide) (fun _ => rfl) (fun _ H locs hP hD hS => ?_)
  have hP : va_P D zcl [(x, .inr (3, [.ref vs, .ref es, .ref o, .ref t])), (ol, .inl (T 1, 1, .inr (.inl (fun k => ou k))))] H := hP
  have hD : va_D A [(x, .inr (3, [.ref vs, .ref es, .ref o, .ref t])), (ol, .inl (T 1, 1, .inr (.inl (fun k => ou k))))] := hD
  refine lv_i2l hx hb dL_sum_8 rfl ?_
  refine zf_l (x' := Int32.toInt64 (nI (smN f k0))) (rfl) ?_
  refine za_last hx hb hK hP hD hS 1 rfl 0 (rfl) (by decide) (by decide) (fun k => oS (Int32.toInt64 (nI (smN f k0))) ou k) (fun _ => rfl) dL_sum_9 (fun H locs hP hD hS => ?_)
  have hP : va_P D zcl [(x, .inr (3, [.ref vs, .ref es, .ref o, .ref t])), (ol, .inl (T 1, 1, .inr (.inl (fun k => oS (Int32.toInt64 (nI (smN f k0))) ou k))))] H := hP
  have hD : va_D A [(x, .inr (3, [.ref vs, .ref es, .ref o, .ref t])), (ol, .inl (T 1, 1, .inr (.inl (fun k => oS (Int32.toInt64 (nI (smN f k0))) ou k))))] := hD
  refine lv_goto (tgt := 17) hx hb dL_sum_10 (by decide) ?_
  refine lv_iconst (v := 0) hx hb dL_sum_17 (by decide) ?_
  refine zc_more (cells' := 1) (slots' := 6) (Nat.le_of_ble_eq_true rfl) (Nat.le_of_ble_eq_true rfl) ?_
  exact zh_iret () hx hb hr hlocks dL_sum_18 hP hD hS (rfl) (rfl)
set_option maxRecDepth 20000 in
theorem w_sum_no (l : Launch) (hlf : l.stackTraces = false) (D : va_G) (T : Nat → ClassId) (x vs es o t : Nat) (ol : Nat) (ou : Nat → Int64) (x0 y : Int32) (ha : arC x0 y = false) : Cm l yL_sum cL_sum 5 (some FieldType.int) [((0 : Nat), (10 : Nat), (13 : Nat), (15 : Nat))] 8 D T [.ref x, .int x0, .int y, .ref ol] [(x, .inr (3, [.ref vs, .ref es, .ref o, .ref t])), (ol, .inl (T 1, 1, .inr (.inl (fun k => ou k))))] (some (.int 1)) (fun _ : Unit => [(x, .inr (3, [.ref vs, .ref es, .ref o, .ref t])), (ol, .inl (T 1, 1, .inr (.inl (fun k => ou k))))]) := by
  refine Cm.of (by decide) (Nat.le_of_ble_eq_true rfl) ?_
  intro zp ze s zm args below zmeth zc hx hb hr hml hown hts hlocks htab A hA hP hK hD hS hZ hN ls hl
  have hl : lv_has ls 5 [(0, .ref x), (1, .int x0), (2, .int y), (3, .ref ol)] := hl
  refine lv_aload_n hx hb dL_sum_0 rfl (lv_at hl 3 rfl) ?_
  refine lv_iconst (v := 0) hx hb dL_sum_1 (by decide) ?_
  refine lv_aload_n hx hb dL_sum_2 rfl (lv_at hl 0 rfl) ?_
  refine lv_iload_n hx hb dL_sum_3 rfl (lv_at hl 1 rfl) ?_
  refine lv_iload_n hx hb dL_sum_4 rfl (lv_at hl 2 rfl) ?_
  refine zt_v (T := T) hx hb hml hown hts k_L_75 (t_X7_sum_no l hlf D T x vs es o t x0 y ha) ⟨by decide, by decide⟩ rfl hl.1 [.int 0, .ref ol] rfl (Nat.le_of_ble_eq_true rfl) dL_sum_5 ⟨Nat.le_of_ble_eq_true rfl, Nat.le_of_ble_eq_true rfl⟩ hK hP hD hS hA hZ (ci := 3) rfl rfl rfl [0] [1] (wr := [(ol, .inl (T 1, 1, .inr (.inl (fun k => ou k))))]) rfl rfl (by decide) (by decide) (by decide) [1, 0] (by decide) rfl (fun ce q9 H locs hP hD hS hce hcv hcl => ?_)
  refine zc_catch (hh := [((0 : Nat), (10 : Nat), (13 : Nat), (15 : Nat))]) (E := "java/lang/IllegalArgumentException") hown hts htab hZ hN hce hcv hcl [] (⟨0, 10, 13, 15⟩ : ExceptionTableEntry) [] rfl (fun z hz => nomatch hz) (by decide) (by decide) u415 cs_439 ?_
  have hP : va_P D zcl [(x, .inr (3, [.ref vs, .ref es, .ref o, .ref t])), (ol, .inl (T 1, 1, .inr (.inl (fun k => ou k))))] H := hP
  have hD : va_D A [(x, .inr (3, [.ref vs, .ref es, .ref o, .ref t])), (ol, .inl (T 1, 1, .inr (.inl (fun k => ou k))))] := hD
  refine lv_astore (lv' := [(4, .ref q9), (0, .ref x), (1, .int x0), (2, .int y), (3, .ref ol)]) hx hb dL_sum_13 hl (by decide) rfl (fun ls hl => ?_)
  refine lv_iconst (v := 1) hx hb dL_sum_15 (by decide) ?_
  refine zc_more (cells' := 1) (slots' := 6) (Nat.le_of_ble_eq_true rfl) (Nat.le_of_ble_eq_true rfl) ?_
  exact zh_iret () hx hb hr hlocks dL_sum_16 hP hD hS (rfl) (rfl)
set_option maxRecDepth 20000 in
theorem w_exact_ok (l : Launch) (hlf : l.stackTraces = false) (D : va_G) (T : Nat → ClassId) (x vs es o t : Nat) (ol : Nat) (ou : Nat → Int64) (k0 : Nat) (hk : k0 ≤ 256) (x0 : Int32) (f : Nat) (hxx : 0 < k0 → x0 = nI f ∧ f + k0 ≤ 65536) : Cm l yL_exact cL_exact 5 (some FieldType.int) [((0 : Nat), (10 : Nat), (13 : Nat), (15 : Nat))] 8 D T [.ref x, .int x0, .int (nI k0), .ref ol] [(x, .inr (3, [.ref vs, .ref es, .ref o, .ref t])), (ol, .inl (T 1, 1, .inr (.inl (fun k => ou k))))] (some (.int 0)) (fun _ : Unit => [(x, .inr (3, [.ref vs, .ref es, .ref o, .ref t])), (ol, .inl (T 1, 1, .inr (.inl (fun k => (oS (Int32.toInt64 (nI (exN f k0))) ou) k))))]) := by
  refine Cm.of (by decide) (Nat.le_of_ble_eq_true rfl) ?_
  intro zp ze s zm args below zmeth zc hx hb hr hml hown hts hlocks htab A hA hP hK hD hS hZ hN ls hl
  have hl : lv_has ls 5 [(0, .ref x), (1, .int x0), (2, .int (nI k0)), (3, .ref ol)] := hl
  refine lv_aload_n hx hb dL_exact_0 rfl (lv_at hl 3 rfl) ?_
  refine lv_iconst (v := 0) hx hb dL_exact_1 (by decide) ?_
  refine lv_aload_n hx hb dL_exact_2 rfl (lv_at hl 0 rfl) ?_
  refine lv_iload_n hx hb dL_exact_3 rfl (lv_at hl 1 rfl) ?_
  refine lv_iload_n hx hb dL_exact_4 rfl (lv_at hl 2 rfl) ?_
  refine zh_v (T := T) hx hb hml hown hts k_L_78 (c_X7_exact_ok l D T x vs es o t k0 hk x0 f hxx) ⟨by decide, by decide⟩ rfl hl.1 [.int 0, .ref ol] rfl (Nat.le_of_ble_eq_true rfl) dL_exact_5 ⟨Nat.le_of_ble_eq_true rfl, Nat.le_of_ble_eq_true rfl⟩ hK hP hD hS hA (ci := 3) rfl rfl rfl [0] [1] (wr := [(ol, .inl (T 1, 1, .inr (.inl (fun k => ou k))))]) rfl rfl (by decide) (by decide) (by decide) [1, 0] (fun _ => [(x, .inr (3, [.ref vs, .ref es, .ref o, .ref t])), (ol, .inl (T 1, 1, .inr (.inl (fun k => ou k))))]) (by decide) (fun _ => rfl) (fun _ H locs hP hD hS => ?_)
  have hP : va_P D zcl [(x, .inr (3, [.ref vs, .ref es, .ref o, .ref t])), (ol, .inl (T 1, 1, .inr (.inl (fun k => ou k))))] H := hP
  have hD : va_D A [(x, .inr (3, [.ref vs, .ref es, .ref o, .ref t])), (ol, .inl (T 1, 1, .inr (.inl (fun k => ou k))))] := hD
  refine lv_i2l hx hb dL_exact_8 rfl ?_
  refine zf_l (x' := Int32.toInt64 (nI (exN f k0))) (rfl) ?_
  refine za_last hx hb hK hP hD hS 1 rfl 0 (rfl) (by decide) (by decide) (fun k => oS (Int32.toInt64 (nI (exN f k0))) ou k) (fun _ => rfl) dL_exact_9 (fun H locs hP hD hS => ?_)
  have hP : va_P D zcl [(x, .inr (3, [.ref vs, .ref es, .ref o, .ref t])), (ol, .inl (T 1, 1, .inr (.inl (fun k => oS (Int32.toInt64 (nI (exN f k0))) ou k))))] H := hP
  have hD : va_D A [(x, .inr (3, [.ref vs, .ref es, .ref o, .ref t])), (ol, .inl (T 1, 1, .inr (.inl (fun k => oS (Int32.toInt64 (nI (exN f k0))) ou k))))] := hD
  refine lv_goto (tgt := 17) hx hb dL_exact_10 (by decide) ?_
  refine lv_iconst (v := 0) hx hb dL_exact_17 (by decide) ?_
  refine zc_more (cells' := 1) (slots' := 6) (Nat.le_of_ble_eq_true rfl) (Nat.le_of_ble_eq_true rfl) ?_
  exact zh_iret () hx hb hr hlocks dL_exact_18 hP hD hS (rfl) (rfl)
set_option maxRecDepth 20000 in
theorem w_exact_no (l : Launch) (hlf : l.stackTraces = false) (D : va_G) (T : Nat → ClassId) (x vs es o t : Nat) (ol : Nat) (ou : Nat → Int64) (x0 y : Int32) (ha : arC x0 y = false) : Cm l yL_exact cL_exact 5 (some FieldType.int) [((0 : Nat), (10 : Nat), (13 : Nat), (15 : Nat))] 8 D T [.ref x, .int x0, .int y, .ref ol] [(x, .inr (3, [.ref vs, .ref es, .ref o, .ref t])), (ol, .inl (T 1, 1, .inr (.inl (fun k => ou k))))] (some (.int 1)) (fun _ : Unit => [(x, .inr (3, [.ref vs, .ref es, .ref o, .ref t])), (ol, .inl (T 1, 1, .inr (.inl (fun k => ou k))))]) := by
  refine Cm.of (by decide) (Nat.le_of_ble_eq_true rfl) ?_
  intro zp ze s zm args below zmeth zc hx hb hr hml hown hts hlocks htab A hA hP hK hD hS hZ hN ls hl
  have hl : lv_has ls 5 [(0, .ref x), (1, .int x0), (2, .int y), (3, .ref ol)] := hl
  refine lv_aload_n hx hb dL_exact_0 rfl (lv_at hl 3 rfl) ?_
  refine lv_iconst (v := 0) hx hb dL_exact_1 (by decide) ?_
  refine lv_aload_n hx hb dL_exact_2 rfl (lv_at hl 0 rfl) ?_
  refine lv_iload_n hx hb dL_exact_3 rfl (lv_at hl 1 rfl) ?_
  refine lv_iload_n hx hb dL_exact_4 rfl (lv_at hl 2 rfl) ?_
  refine zt_v (T := T) hx hb hml hown hts k_L_78 (t_X7_exact_no l hlf D T x vs es o t x0 y ha) ⟨by decide, by decide⟩ rfl hl.1 [.int 0, .ref ol] rfl (Nat.le_of_ble_eq_true rfl) dL_exact_5 ⟨Nat.le_of_ble_eq_true rfl, Nat.le_of_ble_eq_true rfl⟩ hK hP hD hS hA hZ (ci := 3) rfl rfl rfl [0] [1] (wr := [(ol, .inl (T 1, 1, .inr (.inl (fun k => ou k))))]) rfl rfl (by decide) (by decide) (by decide) [1, 0] (by decide) rfl (fun ce q9 H locs hP hD hS hce hcv hcl => ?_)
  refine zc_catch (hh := [((0 : Nat), (10 : Nat), (13 : Nat), (15 : Nat))]) (E := "java/lang/IllegalArgumentException") hown hts htab hZ hN hce hcv hcl [] (⟨0, 10, 13, 15⟩ : ExceptionTableEntry) [] rfl (fun z hz => nomatch hz) (by decide) (by decide) u415 cs_439 ?_
  have hP : va_P D zcl [(x, .inr (3, [.ref vs, .ref es, .ref o, .ref t])), (ol, .inl (T 1, 1, .inr (.inl (fun k => ou k))))] H := hP
  have hD : va_D A [(x, .inr (3, [.ref vs, .ref es, .ref o, .ref t])), (ol, .inl (T 1, 1, .inr (.inl (fun k => ou k))))] := hD
  refine lv_astore (lv' := [(4, .ref q9), (0, .ref x), (1, .int x0), (2, .int y), (3, .ref ol)]) hx hb dL_exact_13 hl (by decide) rfl (fun ls hl => ?_)
  refine lv_iconst (v := 1) hx hb dL_exact_15 (by decide) ?_
  refine zc_more (cells' := 1) (slots' := 6) (Nat.le_of_ble_eq_true rfl) (Nat.le_of_ble_eq_true rfl) ?_
  exact zh_iret () hx hb hr hlocks dL_exact_16 hP hD hS (rfl) (rfl)
set_option maxRecDepth 20000 in
theorem w_lay_ok (l : Launch) (hlf : l.stackTraces = false) (D : va_G) (T : Nat → ClassId) (x vs es o t c1 f1 : Nat) (yv tw : Nat → Nat) (n0 : Nat) (ol : Nat) (ou : Nat → Int64) (p : Nat) (hp : p < 8) (hv1 : isB (yv p) = false) (hc1 : 0 < yv p / 4) (hn : n0 < 60) (hy : ∀ k, yv k < 262144) : Cm l yL_lay cL_lay 4 (some FieldType.int) [((0 : Nat), (9 : Nat), (12 : Nat), (13 : Nat)), ((0 : Nat), (9 : Nat), (15 : Nat), (15 : Nat)), ((0 : Nat), (9 : Nat), (18 : Nat), (84 : Nat))] 8 D T [.ref x, .int (nI p), .ref ol] [(x, .inr (3, [.ref vs, .ref es, .ref o, .ref t])), (vs, .inl (T 0, 8, .inl (fun k => nI (yv k)))), (es, .inl (T 1, 8, .inr (.inl (fun k => edge (yv k))))), (o, .inr (1, [.ref c1, .ref f1, .int (nI n0), .int (nI (htN tw n0))])), (c1, .inl (T 0, 60, .inl (fun k => nI (tw k)))), (f1, .inl (T 0, 60, .inl (fun k => nI (fN (eig (tw k)))))), (ol, .inl (T 1, 1, .inr (.inl (fun k => ou k))))] (some (.int 0)) (fun _ : Unit => [(x, .inr (3, [.ref vs, .ref es, .ref o, .ref t])), (vs, .inl (T 0, 8, .inl (fun k => nI (yv k)))), (es, .inl (T 1, 8, .inr (.inl (fun k => edge (yv k))))), (o, .inr (1, [.ref c1, .ref f1, .int (nI (n0 + 1)), .int (nI (htN (up tw n0 (yv p)) (n0 + 1)))])), (c1, .inl (T 0, 60, .inl (fun k => nI ((up tw n0 (yv p)) k)))), (f1, .inl (T 0, 60, .inl (fun k => nI (fN (eig ((up tw n0 (yv p)) k)))))), (ol, .inl (T 1, 1, .inr (.inl (fun k => (oS (Int32.toInt64 (nI (htN (up tw n0 (yv p)) (n0 + 1)))) ou) k))))]) := by
  refine Cm.of (by decide) (Nat.le_of_ble_eq_true rfl) ?_
  intro zp ze s zm args below zmeth zc hx hb hr hml hown hts hlocks htab A hA hP hK hD hS hZ hN ls hl
  have hl : lv_has ls 4 [(0, .ref x), (1, .int (nI p)), (2, .ref ol)] := hl
  refine lv_aload_n hx hb dL_lay_0 rfl (lv_at hl 2 rfl) ?_
  refine lv_iconst (v := 0) hx hb dL_lay_1 (by decide) ?_
  refine lv_aload_n hx hb dL_lay_2 rfl (lv_at hl 0 rfl) ?_
  refine lv_iload_n hx hb dL_lay_3 rfl (lv_at hl 1 rfl) ?_
  refine zh_v (T := T) hx hb hml hown hts k_L_81 (c_X7_lay_ok l D T x vs es o t c1 f1 yv tw n0 p hp hv1 hc1 hn hy) ⟨by decide, by decide⟩ rfl hl.1 [.int 0, .ref ol] rfl (Nat.le_of_ble_eq_true rfl) dL_lay_4 ⟨Nat.le_of_ble_eq_true rfl, Nat.le_of_ble_eq_true rfl⟩ hK hP hD hS hA (ci := 3) rfl rfl rfl [0, 1, 2, 3, 4, 5] [6] (wr := [(ol, .inl (T 1, 1, .inr (.inl (fun k => ou k))))]) rfl rfl (by decide) (by decide) (by decide) [1, 2, 3, 4, 5, 6, 0] (fun _ => [(x, .inr (3, [.ref vs, .ref es, .ref o, .ref t])), (vs, .inl (T 0, 8, .inl (fun k => nI (yv k)))), (es, .inl (T 1, 8, .inr (.inl (fun k => edge (yv k))))), (o, .inr (1, [.ref c1, .ref f1, .int (nI (n0 + 1)), .int (nI (htN (up tw n0 (yv p)) (n0 + 1)))])), (c1, .inl (T 0, 60, .inl (fun k => nI ((up tw n0 (yv p)) k)))), (f1, .inl (T 0, 60, .inl (fun k => nI (fN (eig ((up tw n0 (yv p)) k)))))), (ol, .inl (T 1, 1, .inr (.inl (fun k => ou k))))]) (by decide) (fun _ => rfl) (fun _ H locs hP hD hS => ?_)
  have hP : va_P D zcl [(x, .inr (3, [.ref vs, .ref es, .ref o, .ref t])), (vs, .inl (T 0, 8, .inl (fun k => nI (yv k)))), (es, .inl (T 1, 8, .inr (.inl (fun k => edge (yv k))))), (o, .inr (1, [.ref c1, .ref f1, .int (nI (n0 + 1)), .int (nI (htN (up tw n0 (yv p)) (n0 + 1)))])), (c1, .inl (T 0, 60, .inl (fun k => nI ((up tw n0 (yv p)) k)))), (f1, .inl (T 0, 60, .inl (fun k => nI (fN (eig ((up tw n0 (yv p)) k)))))), (ol, .inl (T 1, 1, .inr (.inl (fun k => ou k))))] H := hP
  have hD : va_D A [(x, .inr (3, [.ref vs, .ref es, .ref o, .ref t])), (vs, .inl (T 0, 8, .inl (fun k => nI (yv k)))), (es, .inl (T 1, 8, .inr (.inl (fun k => edge (yv k))))), (o, .inr (1, [.ref c1, .ref f1, .int (nI (n0 + 1)), .int (nI (htN (up tw n0 (yv p)) (n0 + 1)))])), (c1, .inl (T 0, 60, .inl (fun k => nI ((up tw n0 (yv p)) k)))), (f1, .inl (T 0, 60, .inl (fun k => nI (fN (eig ((up tw n0 (yv p)) k)))))), (ol, .inl (T 1, 1, .inr (.inl (fun k => ou k))))] := hD
  refine lv_i2l hx hb dL_lay_7 rfl ?_
  refine zf_l (x' := Int32.toInt64 (nI (htN (up tw n0 (yv p)) (n0 + 1)))) (rfl) ?_
  refine za_last hx hb hK hP hD hS 6 rfl 0 (rfl) (by decide) (by decide) (fun k => oS (Int32.toInt64 (nI (htN (up tw n0 (yv p)) (n0 + 1)))) ou k) (fun _ => rfl) dL_lay_8 (fun H locs hP hD hS => ?_)
  have hP : va_P D zcl [(x, .inr (3, [.ref vs, .ref es, .ref o, .ref t])), (vs, .inl (T 0, 8, .inl (fun k => nI (yv k)))), (es, .inl (T 1, 8, .inr (.inl (fun k => edge (yv k))))), (o, .inr (1, [.ref c1, .ref f1, .int (nI (n0 + 1)), .int (nI (htN (up tw n0 (yv p)) (n0 + 1)))])), (c1, .inl (T 0, 60, .inl (fun k => nI ((up tw n0 (yv p)) k)))), (f1, .inl (T 0, 60, .inl (fun k => nI (fN (eig ((up tw n0 (yv p)) k)))))), (ol, .inl (T 1, 1, .inr (.inl (fun k => oS (Int32.toInt64 (nI (htN (up tw n0 (yv p)) (n0 + 1)))) ou k))))] H := hP
  have hD : va_D A [(x, .inr (3, [.ref vs, .ref es, .ref o, .ref t])), (vs, .inl (T 0, 8, .inl (fun k => nI (yv k)))), (es, .inl (T 1, 8, .inr (.inl (fun k => edge (yv k))))), (o, .inr (1, [.ref c1, .ref f1, .int (nI (n0 + 1)), .int (nI (htN (up tw n0 (yv p)) (n0 + 1)))])), (c1, .inl (T 0, 60, .inl (fun k => nI ((up tw n0 (yv p)) k)))), (f1, .inl (T 0, 60, .inl (fun k => nI (fN (eig ((up tw n0 (yv p)) k)))))), (ol, .inl (T 1, 1, .inr (.inl (fun k => oS (Int32.toInt64 (nI (htN (up tw n0 (yv p)) (n0 + 1)))) ou k))))] := hD
  refine lv_goto (tgt := 21) hx hb dL_lay_9 (by decide) ?_
  refine lv_iconst (v := 0) hx hb dL_lay_21 (by decide) ?_
  refine zc_more (cells' := 1) (slots' := 6) (Nat.le_of_ble_eq_true rfl) (Nat.le_of_ble_eq_true rfl) ?_
  exact zh_iret () hx hb hr hlocks dL_lay_22 hP hD hS (rfl) (rfl)
set_option maxRecDepth 20000 in
theorem w_lay_zero (l : Launch) (hlf : l.stackTraces = false) (D : va_G) (T : Nat → ClassId) (x vs es o t c1 f1 : Nat) (yv tw : Nat → Nat) (n0 : Nat) (ol : Nat) (ou : Nat → Int64) (p : Nat) (hp : p < 8) (hv0 : ¬ (isB (yv p) = false ∧ ¬ yv p / 4 = 0)) (hy : ∀ k, yv k < 262144) : Cm l yL_lay cL_lay 4 (some FieldType.int) [((0 : Nat), (9 : Nat), (12 : Nat), (13 : Nat)), ((0 : Nat), (9 : Nat), (15 : Nat), (15 : Nat)), ((0 : Nat), (9 : Nat), (18 : Nat), (84 : Nat))] 8 D T [.ref x, .int (nI p), .ref ol] [(x, .inr (3, [.ref vs, .ref es, .ref o, .ref t])), (vs, .inl (T 0, 8, .inl (fun k => nI (yv k)))), (es, .inl (T 1, 8, .inr (.inl (fun k => edge (yv k))))), (o, .inr (1, [.ref c1, .ref f1, .int (nI n0), .int (nI (htN tw n0))])), (c1, .inl (T 0, 60, .inl (fun k => nI (tw k)))), (f1, .inl (T 0, 60, .inl (fun k => nI (fN (eig (tw k)))))), (ol, .inl (T 1, 1, .inr (.inl (fun k => ou k))))] (some (.int 2)) (fun _ : Unit => [(x, .inr (3, [.ref vs, .ref es, .ref o, .ref t])), (vs, .inl (T 0, 8, .inl (fun k => nI (yv k)))), (es, .inl (T 1, 8, .inr (.inl (fun k => edge (yv k))))), (o, .inr (1, [.ref c1, .ref f1, .int (nI n0), .int (nI (htN tw n0))])), (c1, .inl (T 0, 60, .inl (fun k => nI (tw k)))), (f1, .inl (T 0, 60, .inl (fun k => nI (fN (eig (tw k)))))), (ol, .inl (T 1, 1, .inr (.inl (fun k => ou k))))]) := by
  refine Cm.of (by decide) (Nat.le_of_ble_eq_true rfl) ?_
  intro zp ze s zm args below zmeth zc hx hb hr hml hown hts hlocks htab A hA hP hK hD hS hZ hN ls hl
  have hl : lv_has ls 4 [(0, .ref x), (1, .int (nI p)), (2, .ref ol)] := hl
  refine lv_aload_n hx hb dL_lay_0 rfl (lv_at hl 2 rfl) ?_
  refine lv_iconst (v := 0) hx hb dL_lay_1 (by decide) ?_
  refine lv_aload_n hx hb dL_lay_2 rfl (lv_at hl 0 rfl) ?_
  refine lv_iload_n hx hb dL_lay_3 rfl (lv_at hl 1 rfl) ?_
  refine zt_v (T := T) hx hb hml hown hts k_L_81 (t_X7_lay_zero l hlf D T x vs es o t c1 f1 yv tw n0 p hp hv0 hy) ⟨by decide, by decide⟩ rfl hl.1 [.int 0, .ref ol] rfl (Nat.le_of_ble_eq_true rfl) dL_lay_4 ⟨Nat.le_of_ble_eq_true rfl, Nat.le_of_ble_eq_true rfl⟩ hK hP hD hS hA hZ (ci := 3) rfl rfl rfl [0, 1, 2, 3, 4, 5] [6] (wr := [(ol, .inl (T 1, 1, .inr (.inl (fun k => ou k))))]) rfl rfl (by decide) (by decide) (by decide) [1, 2, 3, 4, 5, 6, 0] (by decide) rfl (fun ce q9 H locs hP hD hS hce hcv hcl => ?_)
  refine zc_catch (hh := [((0 : Nat), (9 : Nat), (12 : Nat), (13 : Nat)), ((0 : Nat), (9 : Nat), (15 : Nat), (15 : Nat)), ((0 : Nat), (9 : Nat), (18 : Nat), (84 : Nat))]) (E := "java/lang/IllegalArgumentException") hown hts htab hZ hN hce hcv hcl [(⟨0, 9, 12, 13⟩ : ExceptionTableEntry)] (⟨0, 9, 15, 15⟩ : ExceptionTableEntry) [(⟨0, 9, 18, 84⟩ : ExceptionTableEntry)] rfl (fun z hz => by rw [List.mem_singleton.mp hz]; exact ⟨by decide, "java/lang/IndexOutOfBoundsException", u336, by decide⟩) (by decide) (by decide) u415 cs_439 ?_
  have hP : va_P D zcl [(x, .inr (3, [.ref vs, .ref es, .ref o, .ref t])), (vs, .inl (T 0, 8, .inl (fun k => nI (yv k)))), (es, .inl (T 1, 8, .inr (.inl (fun k => edge (yv k))))), (o, .inr (1, [.ref c1, .ref f1, .int (nI n0), .int (nI (htN tw n0))])), (c1, .inl (T 0, 60, .inl (fun k => nI (tw k)))), (f1, .inl (T 0, 60, .inl (fun k => nI (fN (eig (tw k)))))), (ol, .inl (T 1, 1, .inr (.inl (fun k => ou k))))] H := hP
  have hD : va_D A [(x, .inr (3, [.ref vs, .ref es, .ref o, .ref t])), (vs, .inl (T 0, 8, .inl (fun k => nI (yv k)))), (es, .inl (T 1, 8, .inr (.inl (fun k => edge (yv k))))), (o, .inr (1, [.ref c1, .ref f1, .int (nI n0), .int (nI (htN tw n0))])), (c1, .inl (T 0, 60, .inl (fun k => nI (tw k)))), (f1, .inl (T 0, 60, .inl (fun k => nI (fN (eig (tw k)))))), (ol, .inl (T 1, 1, .inr (.inl (fun k => ou k))))] := hD
  refine lv_astore_n (lv' := [(3, .ref q9), (0, .ref x), (1, .int (nI p)), (2, .ref ol)]) hx hb dL_lay_15 rfl hl (by decide) rfl (fun ls hl => ?_)
  refine lv_iconst (v := 2) hx hb dL_lay_16 (by decide) ?_
  refine zc_more (cells' := 1) (slots' := 6) (Nat.le_of_ble_eq_true rfl) (Nat.le_of_ble_eq_true rfl) ?_
  exact zh_iret () hx hb hr hlocks dL_lay_17 hP hD hS (rfl) (rfl)
set_option maxRecDepth 20000 in
theorem w_lay_full (l : Launch) (hlf : l.stackTraces = false) (D : va_G) (T : Nat → ClassId) (x vs es o t c1 f1 : Nat) (yv tw : Nat → Nat) (n0 : Nat) (ol : Nat) (ou : Nat → Int64) (p : Nat) (hp : p < 8) (hv1 : isB (yv p) = false) (hc1 : 0 < yv p / 4) (hn : n0 = 60) (hy : ∀ k, yv k < 262144) : Cm l yL_lay cL_lay 4 (some FieldType.int) [((0 : Nat), (9 : Nat), (12 : Nat), (13 : Nat)), ((0 : Nat), (9 : Nat), (15 : Nat), (15 : Nat)), ((0 : Nat), (9 : Nat), (18 : Nat), (84 : Nat))] 8 D T [.ref x, .int (nI p), .ref ol] [(x, .inr (3, [.ref vs, .ref es, .ref o, .ref t])), (vs, .inl (T 0, 8, .inl (fun k => nI (yv k)))), (es, .inl (T 1, 8, .inr (.inl (fun k => edge (yv k))))), (o, .inr (1, [.ref c1, .ref f1, .int (nI n0), .int (nI (htN tw n0))])), (c1, .inl (T 0, 60, .inl (fun k => nI (tw k)))), (f1, .inl (T 0, 60, .inl (fun k => nI (fN (eig (tw k)))))), (ol, .inl (T 1, 1, .inr (.inl (fun k => ou k))))] (some (.int 3)) (fun _ : Unit => [(x, .inr (3, [.ref vs, .ref es, .ref o, .ref t])), (vs, .inl (T 0, 8, .inl (fun k => nI (yv k)))), (es, .inl (T 1, 8, .inr (.inl (fun k => edge (yv k))))), (o, .inr (1, [.ref c1, .ref f1, .int (nI n0), .int (nI (htN tw n0))])), (c1, .inl (T 0, 60, .inl (fun k => nI (tw k)))), (f1, .inl (T 0, 60, .inl (fun k => nI (fN (eig (tw k)))))), (ol, .inl (T 1, 1, .inr (.inl (fun k => ou k))))]) := by
  refine Cm.of (by decide) (Nat.le_of_ble_eq_true rfl) ?_
  intro zp ze s zm args below zmeth zc hx hb hr hml hown hts hlocks htab A hA hP hK hD hS hZ hN ls hl
  have hl : lv_has ls 4 [(0, .ref x), (1, .int (nI p)), (2, .ref ol)] := hl
  refine lv_aload_n hx hb dL_lay_0 rfl (lv_at hl 2 rfl) ?_
  refine lv_iconst (v := 0) hx hb dL_lay_1 (by decide) ?_
  refine lv_aload_n hx hb dL_lay_2 rfl (lv_at hl 0 rfl) ?_
  refine lv_iload_n hx hb dL_lay_3 rfl (lv_at hl 1 rfl) ?_
  refine zt_v (T := T) hx hb hml hown hts k_L_81 (t_X7_lay_full l hlf D T x vs es o t c1 f1 yv tw n0 p hp hv1 hc1 hn hy) ⟨by decide, by decide⟩ rfl hl.1 [.int 0, .ref ol] rfl (Nat.le_of_ble_eq_true rfl) dL_lay_4 ⟨Nat.le_of_ble_eq_true rfl, Nat.le_of_ble_eq_true rfl⟩ hK hP hD hS hA hZ (ci := 3) rfl rfl rfl [0, 1, 2, 3, 4, 5] [6] (wr := [(ol, .inl (T 1, 1, .inr (.inl (fun k => ou k))))]) rfl rfl (by decide) (by decide) (by decide) [1, 2, 3, 4, 5, 6, 0] (by decide) rfl (fun ce q9 H locs hP hD hS hce hcv hcl => ?_)
  refine zc_catch (hh := [((0 : Nat), (9 : Nat), (12 : Nat), (13 : Nat)), ((0 : Nat), (9 : Nat), (15 : Nat), (15 : Nat)), ((0 : Nat), (9 : Nat), (18 : Nat), (84 : Nat))]) (E := "java/lang/IllegalStateException") hown hts htab hZ hN hce hcv hcl [(⟨0, 9, 12, 13⟩ : ExceptionTableEntry), (⟨0, 9, 15, 15⟩ : ExceptionTableEntry)] (⟨0, 9, 18, 84⟩ : ExceptionTableEntry) [] rfl (fun z hz => by (rcases List.mem_cons.mp hz with h9 | h9); (rw [h9]; exact ⟨by decide, "java/lang/IndexOutOfBoundsException", u336, by decide⟩); (rw [List.mem_singleton.mp h9]; exact ⟨by decide, "java/lang/IllegalArgumentException", u415, by decide⟩)) (by decide) (by decide) u647 cs_658 ?_
  have hP : va_P D zcl [(x, .inr (3, [.ref vs, .ref es, .ref o, .ref t])), (vs, .inl (T 0, 8, .inl (fun k => nI (yv k)))), (es, .inl (T 1, 8, .inr (.inl (fun k => edge (yv k))))), (o, .inr (1, [.ref c1, .ref f1, .int (nI n0), .int (nI (htN tw n0))])), (c1, .inl (T 0, 60, .inl (fun k => nI (tw k)))), (f1, .inl (T 0, 60, .inl (fun k => nI (fN (eig (tw k)))))), (ol, .inl (T 1, 1, .inr (.inl (fun k => ou k))))] H := hP
  have hD : va_D A [(x, .inr (3, [.ref vs, .ref es, .ref o, .ref t])), (vs, .inl (T 0, 8, .inl (fun k => nI (yv k)))), (es, .inl (T 1, 8, .inr (.inl (fun k => edge (yv k))))), (o, .inr (1, [.ref c1, .ref f1, .int (nI n0), .int (nI (htN tw n0))])), (c1, .inl (T 0, 60, .inl (fun k => nI (tw k)))), (f1, .inl (T 0, 60, .inl (fun k => nI (fN (eig (tw k)))))), (ol, .inl (T 1, 1, .inr (.inl (fun k => ou k))))] := hD
  refine lv_astore_n (lv' := [(3, .ref q9), (0, .ref x), (1, .int (nI p)), (2, .ref ol)]) hx hb dL_lay_18 rfl hl (by decide) rfl (fun ls hl => ?_)
  refine lv_iconst (v := 3) hx hb dL_lay_19 (by decide) ?_
  refine zc_more (cells' := 1) (slots' := 6) (Nat.le_of_ble_eq_true rfl) (Nat.le_of_ble_eq_true rfl) ?_
  exact zh_iret () hx hb hr hlocks dL_lay_20 hP hD hS (rfl) (rfl)
set_option maxRecDepth 20000 in
theorem w_lay_no (l : Launch) (hlf : l.stackTraces = false) (D : va_G) (T : Nat → ClassId) (x vs es o t c1 f1 : Nat) (yv tw : Nat → Nat) (n0 : Nat) (ol : Nat) (ou : Nat → Int64) (x0 : Int32) (hx0 : m_X8_is x0 = false) : Cm l yL_lay cL_lay 4 (some FieldType.int) [((0 : Nat), (9 : Nat), (12 : Nat), (13 : Nat)), ((0 : Nat), (9 : Nat), (15 : Nat), (15 : Nat)), ((0 : Nat), (9 : Nat), (18 : Nat), (84 : Nat))] 8 D T [.ref x, .int x0, .ref ol] [(x, .inr (3, [.ref vs, .ref es, .ref o, .ref t])), (vs, .inl (T 0, 8, .inl (fun k => nI (yv k)))), (es, .inl (T 1, 8, .inr (.inl (fun k => edge (yv k))))), (o, .inr (1, [.ref c1, .ref f1, .int (nI n0), .int (nI (htN tw n0))])), (c1, .inl (T 0, 60, .inl (fun k => nI (tw k)))), (f1, .inl (T 0, 60, .inl (fun k => nI (fN (eig (tw k)))))), (ol, .inl (T 1, 1, .inr (.inl (fun k => ou k))))] (some (.int 1)) (fun _ : Unit => [(x, .inr (3, [.ref vs, .ref es, .ref o, .ref t])), (vs, .inl (T 0, 8, .inl (fun k => nI (yv k)))), (es, .inl (T 1, 8, .inr (.inl (fun k => edge (yv k))))), (o, .inr (1, [.ref c1, .ref f1, .int (nI n0), .int (nI (htN tw n0))])), (c1, .inl (T 0, 60, .inl (fun k => nI (tw k)))), (f1, .inl (T 0, 60, .inl (fun k => nI (fN (eig (tw k)))))), (ol, .inl (T 1, 1, .inr (.inl (fun k => ou k))))]) := by
  refine Cm.of (by decide) (Nat.le_of_ble_eq_true rfl) ?_
  intro zp ze s zm args below zmeth zc hx hb hr hml hown hts hlocks htab A hA hP hK hD hS hZ hN ls hl
  have hl : lv_has ls 4 [(0, .ref x), (1, .int x0), (2, .ref ol)] := hl
  refine lv_aload_n hx hb dL_lay_0 rfl (lv_at hl 2 rfl) ?_
  refine lv_iconst (v := 0) hx hb dL_lay_1 (by decide) ?_
  refine lv_aload_n hx hb dL_lay_2 rfl (lv_at hl 0 rfl) ?_
  refine lv_iload_n hx hb dL_lay_3 rfl (lv_at hl 1 rfl) ?_
  refine zt_v (T := T) hx hb hml hown hts k_L_81 (t_X7_lay_no l hlf D T x vs es o t c1 f1 yv tw n0 x0 hx0) ⟨by decide, by decide⟩ rfl hl.1 [.int 0, .ref ol] rfl (Nat.le_of_ble_eq_true rfl) dL_lay_4 ⟨Nat.le_of_ble_eq_true rfl, Nat.le_of_ble_eq_true rfl⟩ hK hP hD hS hA hZ (ci := 3) rfl rfl rfl [0, 1, 2, 3, 4, 5] [6] (wr := [(ol, .inl (T 1, 1, .inr (.inl (fun k => ou k))))]) rfl rfl (by decide) (by decide) (by decide) [1, 2, 3, 4, 5, 6, 0] (by decide) rfl (fun ce q9 H locs hP hD hS hce hcv hcl => ?_)
  refine zc_catch (hh := [((0 : Nat), (9 : Nat), (12 : Nat), (13 : Nat)), ((0 : Nat), (9 : Nat), (15 : Nat), (15 : Nat)), ((0 : Nat), (9 : Nat), (18 : Nat), (84 : Nat))]) (E := "java/lang/IndexOutOfBoundsException") hown hts htab hZ hN hce hcv hcl [] (⟨0, 9, 12, 13⟩ : ExceptionTableEntry) [(⟨0, 9, 15, 15⟩ : ExceptionTableEntry), (⟨0, 9, 18, 84⟩ : ExceptionTableEntry)] rfl (fun z hz => nomatch hz) (by decide) (by decide) u336 cs_425 ?_
  have hP : va_P D zcl [(x, .inr (3, [.ref vs, .ref es, .ref o, .ref t])), (vs, .inl (T 0, 8, .inl (fun k => nI (yv k)))), (es, .inl (T 1, 8, .inr (.inl (fun k => edge (yv k))))), (o, .inr (1, [.ref c1, .ref f1, .int (nI n0), .int (nI (htN tw n0))])), (c1, .inl (T 0, 60, .inl (fun k => nI (tw k)))), (f1, .inl (T 0, 60, .inl (fun k => nI (fN (eig (tw k)))))), (ol, .inl (T 1, 1, .inr (.inl (fun k => ou k))))] H := hP
  have hD : va_D A [(x, .inr (3, [.ref vs, .ref es, .ref o, .ref t])), (vs, .inl (T 0, 8, .inl (fun k => nI (yv k)))), (es, .inl (T 1, 8, .inr (.inl (fun k => edge (yv k))))), (o, .inr (1, [.ref c1, .ref f1, .int (nI n0), .int (nI (htN tw n0))])), (c1, .inl (T 0, 60, .inl (fun k => nI (tw k)))), (f1, .inl (T 0, 60, .inl (fun k => nI (fN (eig (tw k)))))), (ol, .inl (T 1, 1, .inr (.inl (fun k => ou k))))] := hD
  refine lv_astore_n (lv' := [(3, .ref q9), (0, .ref x), (1, .int x0), (2, .ref ol)]) hx hb dL_lay_12 rfl hl (by decide) rfl (fun ls hl => ?_)
  refine lv_iconst (v := 1) hx hb dL_lay_13 (by decide) ?_
  refine zc_more (cells' := 1) (slots' := 6) (Nat.le_of_ble_eq_true rfl) (Nat.le_of_ble_eq_true rfl) ?_
  exact zh_iret () hx hb hr hlocks dL_lay_14 hP hD hS (rfl) (rfl)
set_option maxRecDepth 20000 in
theorem w_lift_no (l : Launch) (hlf : l.stackTraces = false) (D : va_G) (T : Nat → ClassId) (x vs es o t c1 f1 : Nat) (yv tw : Nat → Nat) (n0 : Nat) (ol : Nat) (ou : Nat → Int64) (x0 : Int32) (hx0 : m_X8_is x0 = false) : Cm l yL_lift cL_lift 4 (some FieldType.int) [((0 : Nat), (9 : Nat), (12 : Nat), (13 : Nat)), ((0 : Nat), (9 : Nat), (15 : Nat), (89 : Nat))] 8 D T [.ref x, .int x0, .ref ol] [(x, .inr (3, [.ref vs, .ref es, .ref o, .ref t])), (vs, .inl (T 0, 8, .inl (fun k => nI (yv k)))), (es, .inl (T 1, 8, .inr (.inl (fun k => edge (yv k))))), (o, .inr (1, [.ref c1, .ref f1, .int (nI n0), .int (nI (htN tw n0))])), (c1, .inl (T 0, 60, .inl (fun k => nI (tw k)))), (f1, .inl (T 0, 60, .inl (fun k => nI (fN (eig (tw k)))))), (ol, .inl (T 1, 1, .inr (.inl (fun k => ou k))))] (some (.int 1)) (fun _ : Unit => [(x, .inr (3, [.ref vs, .ref es, .ref o, .ref t])), (vs, .inl (T 0, 8, .inl (fun k => nI (yv k)))), (es, .inl (T 1, 8, .inr (.inl (fun k => edge (yv k))))), (o, .inr (1, [.ref c1, .ref f1, .int (nI n0), .int (nI (htN tw n0))])), (c1, .inl (T 0, 60, .inl (fun k => nI (tw k)))), (f1, .inl (T 0, 60, .inl (fun k => nI (fN (eig (tw k)))))), (ol, .inl (T 1, 1, .inr (.inl (fun k => ou k))))]) := by
  refine Cm.of (by decide) (Nat.le_of_ble_eq_true rfl) ?_
  intro zp ze s zm args below zmeth zc hx hb hr hml hown hts hlocks htab A hA hP hK hD hS hZ hN ls hl
  have hl : lv_has ls 4 [(0, .ref x), (1, .int x0), (2, .ref ol)] := hl
  refine lv_aload_n hx hb dL_lift_0 rfl (lv_at hl 2 rfl) ?_
  refine lv_iconst (v := 0) hx hb dL_lift_1 (by decide) ?_
  refine lv_aload_n hx hb dL_lift_2 rfl (lv_at hl 0 rfl) ?_
  refine lv_iload_n hx hb dL_lift_3 rfl (lv_at hl 1 rfl) ?_
  refine zt_v (T := T) hx hb hml hown hts k_L_86 (t_X7_lift_no l hlf D T x vs es o t c1 f1 yv tw n0 x0 hx0) ⟨by decide, by decide⟩ rfl hl.1 [.int 0, .ref ol] rfl (Nat.le_of_ble_eq_true rfl) dL_lift_4 ⟨Nat.le_of_ble_eq_true rfl, Nat.le_of_ble_eq_true rfl⟩ hK hP hD hS hA hZ (ci := 3) rfl rfl rfl [0, 1, 2, 3, 4, 5] [6] (wr := [(ol, .inl (T 1, 1, .inr (.inl (fun k => ou k))))]) rfl rfl (by decide) (by decide) (by decide) [1, 2, 3, 4, 5, 6, 0] (by decide) rfl (fun ce q9 H locs hP hD hS hce hcv hcl => ?_)
  refine zc_catch (hh := [((0 : Nat), (9 : Nat), (12 : Nat), (13 : Nat)), ((0 : Nat), (9 : Nat), (15 : Nat), (89 : Nat))]) (E := "java/lang/IndexOutOfBoundsException") hown hts htab hZ hN hce hcv hcl [] (⟨0, 9, 12, 13⟩ : ExceptionTableEntry) [(⟨0, 9, 15, 89⟩ : ExceptionTableEntry)] rfl (fun z hz => nomatch hz) (by decide) (by decide) u336 cs_425 ?_
  have hP : va_P D zcl [(x, .inr (3, [.ref vs, .ref es, .ref o, .ref t])), (vs, .inl (T 0, 8, .inl (fun k => nI (yv k)))), (es, .inl (T 1, 8, .inr (.inl (fun k => edge (yv k))))), (o, .inr (1, [.ref c1, .ref f1, .int (nI n0), .int (nI (htN tw n0))])), (c1, .inl (T 0, 60, .inl (fun k => nI (tw k)))), (f1, .inl (T 0, 60, .inl (fun k => nI (fN (eig (tw k)))))), (ol, .inl (T 1, 1, .inr (.inl (fun k => ou k))))] H := hP
  have hD : va_D A [(x, .inr (3, [.ref vs, .ref es, .ref o, .ref t])), (vs, .inl (T 0, 8, .inl (fun k => nI (yv k)))), (es, .inl (T 1, 8, .inr (.inl (fun k => edge (yv k))))), (o, .inr (1, [.ref c1, .ref f1, .int (nI n0), .int (nI (htN tw n0))])), (c1, .inl (T 0, 60, .inl (fun k => nI (tw k)))), (f1, .inl (T 0, 60, .inl (fun k => nI (fN (eig (tw k)))))), (ol, .inl (T 1, 1, .inr (.inl (fun k => ou k))))] := hD
  refine lv_astore_n (lv' := [(3, .ref q9), (0, .ref x), (1, .int x0), (2, .ref ol)]) hx hb dL_lift_12 rfl hl (by decide) rfl (fun ls hl => ?_)
  refine lv_iconst (v := 1) hx hb dL_lift_13 (by decide) ?_
  refine zc_more (cells' := 1) (slots' := 6) (Nat.le_of_ble_eq_true rfl) (Nat.le_of_ble_eq_true rfl) ?_
  exact zh_iret () hx hb hr hlocks dL_lift_14 hP hD hS (rfl) (rfl)
set_option maxRecDepth 20000 in
theorem w_melt_no (l : Launch) (hlf : l.stackTraces = false) (D : va_G) (T : Nat → ClassId) (x vs es o t c1 f1 : Nat) (yv tw : Nat → Nat) (n0 : Nat) (ol : Nat) (ou : Nat → Int64) (x0 : Int32) (hx0 : m_X8_is x0 = false) : Cm l yL_melt cL_melt 4 (some FieldType.int) [((0 : Nat), (9 : Nat), (12 : Nat), (13 : Nat)), ((0 : Nat), (9 : Nat), (15 : Nat), (89 : Nat)), ((0 : Nat), (9 : Nat), (18 : Nat), (42 : Nat))] 8 D T [.ref x, .int x0, .ref ol] [(x, .inr (3, [.ref vs, .ref es, .ref o, .ref t])), (vs, .inl (T 0, 8, .inl (fun k => nI (yv k)))), (es, .inl (T 1, 8, .inr (.inl (fun k => edge (yv k))))), (o, .inr (1, [.ref c1, .ref f1, .int (nI n0), .int (nI (htN tw n0))])), (c1, .inl (T 0, 60, .inl (fun k => nI (tw k)))), (f1, .inl (T 0, 60, .inl (fun k => nI (fN (eig (tw k)))))), (ol, .inl (T 1, 1, .inr (.inl (fun k => ou k))))] (some (.int 1)) (fun _ : Unit => [(x, .inr (3, [.ref vs, .ref es, .ref o, .ref t])), (vs, .inl (T 0, 8, .inl (fun k => nI (yv k)))), (es, .inl (T 1, 8, .inr (.inl (fun k => edge (yv k))))), (o, .inr (1, [.ref c1, .ref f1, .int (nI n0), .int (nI (htN tw n0))])), (c1, .inl (T 0, 60, .inl (fun k => nI (tw k)))), (f1, .inl (T 0, 60, .inl (fun k => nI (fN (eig (tw k)))))), (ol, .inl (T 1, 1, .inr (.inl (fun k => ou k))))]) := by
  refine Cm.of (by decide) (Nat.le_of_ble_eq_true rfl) ?_
  intro zp ze s zm args below zmeth zc hx hb hr hml hown hts hlocks htab A hA hP hK hD hS hZ hN ls hl
  have hl : lv_has ls 4 [(0, .ref x), (1, .int x0), (2, .ref ol)] := hl
  refine lv_aload_n hx hb dL_melt_0 rfl (lv_at hl 2 rfl) ?_
  refine lv_iconst (v := 0) hx hb dL_melt_1 (by decide) ?_
  refine lv_aload_n hx hb dL_melt_2 rfl (lv_at hl 0 rfl) ?_
  refine lv_iload_n hx hb dL_melt_3 rfl (lv_at hl 1 rfl) ?_
  refine zt_v (T := T) hx hb hml hown hts k_L_91 (t_X7_melt_no l hlf D T x vs es o t c1 f1 yv tw n0 x0 hx0) ⟨by decide, by decide⟩ rfl hl.1 [.int 0, .ref ol] rfl (Nat.le_of_ble_eq_true rfl) dL_melt_4 ⟨Nat.le_of_ble_eq_true rfl, Nat.le_of_ble_eq_true rfl⟩ hK hP hD hS hA hZ (ci := 3) rfl rfl rfl [0, 1, 2, 3, 4, 5] [6] (wr := [(ol, .inl (T 1, 1, .inr (.inl (fun k => ou k))))]) rfl rfl (by decide) (by decide) (by decide) [1, 2, 3, 4, 5, 6, 0] (by decide) rfl (fun ce q9 H locs hP hD hS hce hcv hcl => ?_)
  refine zc_catch (hh := [((0 : Nat), (9 : Nat), (12 : Nat), (13 : Nat)), ((0 : Nat), (9 : Nat), (15 : Nat), (89 : Nat)), ((0 : Nat), (9 : Nat), (18 : Nat), (42 : Nat))]) (E := "java/lang/IndexOutOfBoundsException") hown hts htab hZ hN hce hcv hcl [] (⟨0, 9, 12, 13⟩ : ExceptionTableEntry) [(⟨0, 9, 15, 89⟩ : ExceptionTableEntry), (⟨0, 9, 18, 42⟩ : ExceptionTableEntry)] rfl (fun z hz => nomatch hz) (by decide) (by decide) u336 cs_425 ?_
  have hP : va_P D zcl [(x, .inr (3, [.ref vs, .ref es, .ref o, .ref t])), (vs, .inl (T 0, 8, .inl (fun k => nI (yv k)))), (es, .inl (T 1, 8, .inr (.inl (fun k => edge (yv k))))), (o, .inr (1, [.ref c1, .ref f1, .int (nI n0), .int (nI (htN tw n0))])), (c1, .inl (T 0, 60, .inl (fun k => nI (tw k)))), (f1, .inl (T 0, 60, .inl (fun k => nI (fN (eig (tw k)))))), (ol, .inl (T 1, 1, .inr (.inl (fun k => ou k))))] H := hP
  have hD : va_D A [(x, .inr (3, [.ref vs, .ref es, .ref o, .ref t])), (vs, .inl (T 0, 8, .inl (fun k => nI (yv k)))), (es, .inl (T 1, 8, .inr (.inl (fun k => edge (yv k))))), (o, .inr (1, [.ref c1, .ref f1, .int (nI n0), .int (nI (htN tw n0))])), (c1, .inl (T 0, 60, .inl (fun k => nI (tw k)))), (f1, .inl (T 0, 60, .inl (fun k => nI (fN (eig (tw k)))))), (ol, .inl (T 1, 1, .inr (.inl (fun k => ou k))))] := hD
  refine lv_astore_n (lv' := [(3, .ref q9), (0, .ref x), (1, .int x0), (2, .ref ol)]) hx hb dL_melt_12 rfl hl (by decide) rfl (fun ls hl => ?_)
  refine lv_iconst (v := 1) hx hb dL_melt_13 (by decide) ?_
  refine zc_more (cells' := 1) (slots' := 6) (Nat.le_of_ble_eq_true rfl) (Nat.le_of_ble_eq_true rfl) ?_
  exact zh_iret () hx hb hr hlocks dL_melt_14 hP hD hS (rfl) (rfl)
set_option maxRecDepth 20000 in
theorem w_lift_ok (l : Launch) (hlf : l.stackTraces = false) (D : va_G) (T : Nat → ClassId) (x vs es o t c1 f1 : Nat) (yv tw : Nat → Nat) (n0 : Nat) (ol : Nat) (ou : Nat → Int64) (p : Nat) (hp : p < 8) (n1 : Nat) (hn : n1 < 60) (ht : ∀ k, tw k < 262144)  : Cm l yL_lift cL_lift 4 (some FieldType.int) [((0 : Nat), (9 : Nat), (12 : Nat), (13 : Nat)), ((0 : Nat), (9 : Nat), (15 : Nat), (89 : Nat))] 8 D T [.ref x, .int (nI p), .ref ol] [(x, .inr (3, [.ref vs, .ref es, .ref o, .ref t])), (vs, .inl (T 0, 8, .inl (fun k => nI (yv k)))), (es, .inl (T 1, 8, .inr (.inl (fun k => edge (yv k))))), (o, .inr (1, [.ref c1, .ref f1, .int (nI (n1 + 1)), .int (nI (htN tw (n1 + 1)))])), (c1, .inl (T 0, 60, .inl (fun k => nI (tw k)))), (f1, .inl (T 0, 60, .inl (fun k => nI (fN (eig (tw k)))))), (ol, .inl (T 1, 1, .inr (.inl (fun k => ou k))))] (some (.int 0)) (fun _ : Unit => [(x, .inr (3, [.ref vs, .ref es, .ref o, .ref t])), (vs, .inl (T 0, 8, .inl (fun k => nI ((up yv p (tw n1)) k)))), (es, .inl (T 1, 8, .inr (.inl (fun k => edge ((up yv p (tw n1)) k))))), (o, .inr (1, [.ref c1, .ref f1, .int (nI n1), .int (nI (htN tw n1))])), (c1, .inl (T 0, 60, .inl (fun k => nI (tw k)))), (f1, .inl (T 0, 60, .inl (fun k => nI (fN (eig (tw k)))))), (ol, .inl (T 1, 1, .inr (.inl (fun k => (oS (Int32.toInt64 (nI (htN tw n1))) ou) k))))]) := by
  refine Cm.of (by decide) (Nat.le_of_ble_eq_true rfl) ?_
  intro zp ze s zm args below zmeth zc hx hb hr hml hown hts hlocks htab A hA hP hK hD hS hZ hN ls hl
  have hl : lv_has ls 4 [(0, .ref x), (1, .int (nI p)), (2, .ref ol)] := hl
  refine lv_aload_n hx hb dL_lift_0 rfl (lv_at hl 2 rfl) ?_
  refine lv_iconst (v := 0) hx hb dL_lift_1 (by decide) ?_
  refine lv_aload_n hx hb dL_lift_2 rfl (lv_at hl 0 rfl) ?_
  refine lv_iload_n hx hb dL_lift_3 rfl (lv_at hl 1 rfl) ?_
  refine zh_v (T := T) hx hb hml hown hts k_L_86 (c_X7_lift_ok l D T x vs es o t c1 f1 yv tw n0 p hp n1 hn ht) ⟨by decide, by decide⟩ rfl hl.1 [.int 0, .ref ol] rfl (Nat.le_of_ble_eq_true rfl) dL_lift_4 ⟨Nat.le_of_ble_eq_true rfl, Nat.le_of_ble_eq_true rfl⟩ hK hP hD hS hA (ci := 3) rfl rfl rfl [0, 1, 2, 3, 4, 5] [6] (wr := [(ol, .inl (T 1, 1, .inr (.inl (fun k => ou k))))]) rfl rfl (by decide) (by decide) (by decide) [1, 2, 3, 4, 5, 6, 0] (fun _ => [(x, .inr (3, [.ref vs, .ref es, .ref o, .ref t])), (vs, .inl (T 0, 8, .inl (fun k => nI ((up yv p (tw n1)) k)))), (es, .inl (T 1, 8, .inr (.inl (fun k => edge ((up yv p (tw n1)) k))))), (o, .inr (1, [.ref c1, .ref f1, .int (nI n1), .int (nI (htN tw n1))])), (c1, .inl (T 0, 60, .inl (fun k => nI (tw k)))), (f1, .inl (T 0, 60, .inl (fun k => nI (fN (eig (tw k)))))), (ol, .inl (T 1, 1, .inr (.inl (fun k => ou k))))]) (by decide) (fun _ => rfl) (fun _ H locs hP hD hS => ?_)
  have hP : va_P D zcl [(x, .inr (3, [.ref vs, .ref es, .ref o, .ref t])), (vs, .inl (T 0, 8, .inl (fun k => nI ((up yv p (tw n1)) k)))), (es, .inl (T 1, 8, .inr (.inl (fun k => edge ((up yv p (tw n1)) k))))), (o, .inr (1, [.ref c1, .ref f1, .int (nI n1), .int (nI (htN tw n1))])), (c1, .inl (T 0, 60, .inl (fun k => nI (tw k)))), (f1, .inl (T 0, 60, .inl (fun k => nI (fN (eig (tw k)))))), (ol, .inl (T 1, 1, .inr (.inl (fun k => ou k))))] H := hP
  have hD : va_D A [(x, .inr (3, [.ref vs, .ref es, .ref o, .ref t])), (vs, .inl (T 0, 8, .inl (fun k => nI ((up yv p (tw n1)) k)))), (es, .inl (T 1, 8, .inr (.inl (fun k => edge ((up yv p (tw n1)) k))))), (o, .inr (1, [.ref c1, .ref f1, .int (nI n1), .int (nI (htN tw n1))])), (c1, .inl (T 0, 60, .inl (fun k => nI (tw k)))), (f1, .inl (T 0, 60, .inl (fun k => nI (fN (eig (tw k)))))), (ol, .inl (T 1, 1, .inr (.inl (fun k => ou k))))] := hD
  refine lv_i2l hx hb dL_lift_7 rfl ?_
  refine zf_l (x' := Int32.toInt64 (nI (htN tw n1))) (rfl) ?_
  refine za_last hx hb hK hP hD hS 6 rfl 0 (rfl) (by decide) (by decide) (fun k => oS (Int32.toInt64 (nI (htN tw n1))) ou k) (fun _ => rfl) dL_lift_8 (fun H locs hP hD hS => ?_)
  have hP : va_P D zcl [(x, .inr (3, [.ref vs, .ref es, .ref o, .ref t])), (vs, .inl (T 0, 8, .inl (fun k => nI ((up yv p (tw n1)) k)))), (es, .inl (T 1, 8, .inr (.inl (fun k => edge ((up yv p (tw n1)) k))))), (o, .inr (1, [.ref c1, .ref f1, .int (nI n1), .int (nI (htN tw n1))])), (c1, .inl (T 0, 60, .inl (fun k => nI (tw k)))), (f1, .inl (T 0, 60, .inl (fun k => nI (fN (eig (tw k)))))), (ol, .inl (T 1, 1, .inr (.inl (fun k => oS (Int32.toInt64 (nI (htN tw n1))) ou k))))] H := hP
  have hD : va_D A [(x, .inr (3, [.ref vs, .ref es, .ref o, .ref t])), (vs, .inl (T 0, 8, .inl (fun k => nI ((up yv p (tw n1)) k)))), (es, .inl (T 1, 8, .inr (.inl (fun k => edge ((up yv p (tw n1)) k))))), (o, .inr (1, [.ref c1, .ref f1, .int (nI n1), .int (nI (htN tw n1))])), (c1, .inl (T 0, 60, .inl (fun k => nI (tw k)))), (f1, .inl (T 0, 60, .inl (fun k => nI (fN (eig (tw k)))))), (ol, .inl (T 1, 1, .inr (.inl (fun k => oS (Int32.toInt64 (nI (htN tw n1))) ou k))))] := hD
  refine lv_goto (tgt := 18) hx hb dL_lift_9 (by decide) ?_
  refine lv_iconst (v := 0) hx hb dL_lift_18 (by decide) ?_
  refine zc_more (cells' := 1) (slots' := 6) (Nat.le_of_ble_eq_true rfl) (Nat.le_of_ble_eq_true rfl) ?_
  exact zh_iret () hx hb hr hlocks dL_lift_19 hP hD hS (rfl) (rfl)
set_option maxRecDepth 20000 in
theorem w_lift_none (l : Launch) (hlf : l.stackTraces = false) (D : va_G) (T : Nat → ClassId) (x vs es o t c1 f1 : Nat) (yv tw : Nat → Nat) (n0 : Nat) (ol : Nat) (ou : Nat → Int64) (p : Nat) (hp : p < 8) (hn : n0 = 0) : Cm l yL_lift cL_lift 4 (some FieldType.int) [((0 : Nat), (9 : Nat), (12 : Nat), (13 : Nat)), ((0 : Nat), (9 : Nat), (15 : Nat), (89 : Nat))] 8 D T [.ref x, .int (nI p), .ref ol] [(x, .inr (3, [.ref vs, .ref es, .ref o, .ref t])), (vs, .inl (T 0, 8, .inl (fun k => nI (yv k)))), (es, .inl (T 1, 8, .inr (.inl (fun k => edge (yv k))))), (o, .inr (1, [.ref c1, .ref f1, .int (nI n0), .int (nI (htN tw n0))])), (c1, .inl (T 0, 60, .inl (fun k => nI (tw k)))), (f1, .inl (T 0, 60, .inl (fun k => nI (fN (eig (tw k)))))), (ol, .inl (T 1, 1, .inr (.inl (fun k => ou k))))] (some (.int 2)) (fun _ : Unit => [(x, .inr (3, [.ref vs, .ref es, .ref o, .ref t])), (vs, .inl (T 0, 8, .inl (fun k => nI (yv k)))), (es, .inl (T 1, 8, .inr (.inl (fun k => edge (yv k))))), (o, .inr (1, [.ref c1, .ref f1, .int (nI n0), .int (nI (htN tw n0))])), (c1, .inl (T 0, 60, .inl (fun k => nI (tw k)))), (f1, .inl (T 0, 60, .inl (fun k => nI (fN (eig (tw k)))))), (ol, .inl (T 1, 1, .inr (.inl (fun k => ou k))))]) := by
  refine Cm.of (by decide) (Nat.le_of_ble_eq_true rfl) ?_
  intro zp ze s zm args below zmeth zc hx hb hr hml hown hts hlocks htab A hA hP hK hD hS hZ hN ls hl
  have hl : lv_has ls 4 [(0, .ref x), (1, .int (nI p)), (2, .ref ol)] := hl
  refine lv_aload_n hx hb dL_lift_0 rfl (lv_at hl 2 rfl) ?_
  refine lv_iconst (v := 0) hx hb dL_lift_1 (by decide) ?_
  refine lv_aload_n hx hb dL_lift_2 rfl (lv_at hl 0 rfl) ?_
  refine lv_iload_n hx hb dL_lift_3 rfl (lv_at hl 1 rfl) ?_
  refine zt_v (T := T) hx hb hml hown hts k_L_86 (t_X7_lift_none l hlf D T x vs es o t c1 f1 yv tw n0 p hp hn) ⟨by decide, by decide⟩ rfl hl.1 [.int 0, .ref ol] rfl (Nat.le_of_ble_eq_true rfl) dL_lift_4 ⟨Nat.le_of_ble_eq_true rfl, Nat.le_of_ble_eq_true rfl⟩ hK hP hD hS hA hZ (ci := 3) rfl rfl rfl [0, 1, 2, 3, 4, 5] [6] (wr := [(ol, .inl (T 1, 1, .inr (.inl (fun k => ou k))))]) rfl rfl (by decide) (by decide) (by decide) [1, 2, 3, 4, 5, 6, 0] (by decide) rfl (fun ce q9 H locs hP hD hS hce hcv hcl => ?_)
  refine zc_catch (hh := [((0 : Nat), (9 : Nat), (12 : Nat), (13 : Nat)), ((0 : Nat), (9 : Nat), (15 : Nat), (89 : Nat))]) (E := "java/util/NoSuchElementException") hown hts htab hZ hN hce hcv hcl [(⟨0, 9, 12, 13⟩ : ExceptionTableEntry)] (⟨0, 9, 15, 89⟩ : ExceptionTableEntry) [] rfl (fun z hz => by rw [List.mem_singleton.mp hz]; exact ⟨by decide, "java/lang/IndexOutOfBoundsException", u336, by decide⟩) (by decide) (by decide) u680 cs_692 ?_
  have hP : va_P D zcl [(x, .inr (3, [.ref vs, .ref es, .ref o, .ref t])), (vs, .inl (T 0, 8, .inl (fun k => nI (yv k)))), (es, .inl (T 1, 8, .inr (.inl (fun k => edge (yv k))))), (o, .inr (1, [.ref c1, .ref f1, .int (nI n0), .int (nI (htN tw n0))])), (c1, .inl (T 0, 60, .inl (fun k => nI (tw k)))), (f1, .inl (T 0, 60, .inl (fun k => nI (fN (eig (tw k)))))), (ol, .inl (T 1, 1, .inr (.inl (fun k => ou k))))] H := hP
  have hD : va_D A [(x, .inr (3, [.ref vs, .ref es, .ref o, .ref t])), (vs, .inl (T 0, 8, .inl (fun k => nI (yv k)))), (es, .inl (T 1, 8, .inr (.inl (fun k => edge (yv k))))), (o, .inr (1, [.ref c1, .ref f1, .int (nI n0), .int (nI (htN tw n0))])), (c1, .inl (T 0, 60, .inl (fun k => nI (tw k)))), (f1, .inl (T 0, 60, .inl (fun k => nI (fN (eig (tw k)))))), (ol, .inl (T 1, 1, .inr (.inl (fun k => ou k))))] := hD
  refine lv_astore_n (lv' := [(3, .ref q9), (0, .ref x), (1, .int (nI p)), (2, .ref ol)]) hx hb dL_lift_15 rfl hl (by decide) rfl (fun ls hl => ?_)
  refine lv_iconst (v := 2) hx hb dL_lift_16 (by decide) ?_
  refine zc_more (cells' := 1) (slots' := 6) (Nat.le_of_ble_eq_true rfl) (Nat.le_of_ble_eq_true rfl) ?_
  exact zh_iret () hx hb hr hlocks dL_lift_17 hP hD hS (rfl) (rfl)
set_option maxRecDepth 20000 in
theorem w_melt_ok (l : Launch) (hlf : l.stackTraces = false) (D : va_G) (T : Nat → ClassId) (x vs es o t c1 f1 : Nat) (yv tw : Nat → Nat) (n0 : Nat) (ol : Nat) (ou : Nat → Int64) (p : Nat) (hp : p < 8) (hn0 : 0 < n0) (hn : n0 ≤ 60) (hr0 : rdC (egN tw n0) ≤ 65535) (ht : ∀ k, tw k < 262144)  : Cm l yL_melt cL_melt 4 (some FieldType.int) [((0 : Nat), (9 : Nat), (12 : Nat), (13 : Nat)), ((0 : Nat), (9 : Nat), (15 : Nat), (89 : Nat)), ((0 : Nat), (9 : Nat), (18 : Nat), (42 : Nat))] 8 D T [.ref x, .int (nI p), .ref ol] [(x, .inr (3, [.ref vs, .ref es, .ref o, .ref t])), (vs, .inl (T 0, 8, .inl (fun k => nI (yv k)))), (es, .inl (T 1, 8, .inr (.inl (fun k => edge (yv k))))), (o, .inr (1, [.ref c1, .ref f1, .int (nI n0), .int (nI (htN tw n0))])), (c1, .inl (T 0, 60, .inl (fun k => nI (tw k)))), (f1, .inl (T 0, 60, .inl (fun k => nI (fN (eig (tw k)))))), (ol, .inl (T 1, 1, .inr (.inl (fun k => ou k))))] (some (.int 0)) (fun _ : Unit => [(x, .inr (3, [.ref vs, .ref es, .ref o, .ref t])), (vs, .inl (T 0, 8, .inl (fun k => nI ((up yv p (rdV (egN tw n0) false)) k)))), (es, .inl (T 1, 8, .inr (.inl (fun k => edge ((up yv p (rdV (egN tw n0) false)) k))))), (o, .inr (1, [.ref c1, .ref f1, .int (nI 0), .int (nI (htN tw 0))])), (c1, .inl (T 0, 60, .inl (fun k => nI (tw k)))), (f1, .inl (T 0, 60, .inl (fun k => nI (fN (eig (tw k)))))), (ol, .inl (T 1, 1, .inr (.inl (fun k => (oS (Int32.toInt64 (nI (htN tw n0) - fI (rdV (egN tw n0) false))) ou) k))))]) := by
  refine Cm.of (by decide) (Nat.le_of_ble_eq_true rfl) ?_
  intro zp ze s zm args below zmeth zc hx hb hr hml hown hts hlocks htab A hA hP hK hD hS hZ hN ls hl
  have hl : lv_has ls 4 [(0, .ref x), (1, .int (nI p)), (2, .ref ol)] := hl
  refine lv_aload_n hx hb dL_melt_0 rfl (lv_at hl 2 rfl) ?_
  refine lv_iconst (v := 0) hx hb dL_melt_1 (by decide) ?_
  refine lv_aload_n hx hb dL_melt_2 rfl (lv_at hl 0 rfl) ?_
  refine lv_iload_n hx hb dL_melt_3 rfl (lv_at hl 1 rfl) ?_
  refine zh_v (T := T) hx hb hml hown hts k_L_91 (c_X7_melt_ok l D T x vs es o t c1 f1 yv tw n0 p hp hn0 hn hr0 ht) ⟨by decide, by decide⟩ rfl hl.1 [.int 0, .ref ol] rfl (Nat.le_of_ble_eq_true rfl) dL_melt_4 ⟨Nat.le_of_ble_eq_true rfl, Nat.le_of_ble_eq_true rfl⟩ hK hP hD hS hA (ci := 3) rfl rfl rfl [0, 1, 2, 3, 4, 5] [6] (wr := [(ol, .inl (T 1, 1, .inr (.inl (fun k => ou k))))]) rfl rfl (by decide) (by decide) (by decide) [1, 2, 3, 4, 5, 6, 0] (fun _ => [(x, .inr (3, [.ref vs, .ref es, .ref o, .ref t])), (vs, .inl (T 0, 8, .inl (fun k => nI ((up yv p (rdV (egN tw n0) false)) k)))), (es, .inl (T 1, 8, .inr (.inl (fun k => edge ((up yv p (rdV (egN tw n0) false)) k))))), (o, .inr (1, [.ref c1, .ref f1, .int (nI 0), .int (nI (htN tw 0))])), (c1, .inl (T 0, 60, .inl (fun k => nI (tw k)))), (f1, .inl (T 0, 60, .inl (fun k => nI (fN (eig (tw k)))))), (ol, .inl (T 1, 1, .inr (.inl (fun k => ou k))))]) (by decide) (fun _ => rfl) (fun _ H locs hP hD hS => ?_)
  have hP : va_P D zcl [(x, .inr (3, [.ref vs, .ref es, .ref o, .ref t])), (vs, .inl (T 0, 8, .inl (fun k => nI ((up yv p (rdV (egN tw n0) false)) k)))), (es, .inl (T 1, 8, .inr (.inl (fun k => edge ((up yv p (rdV (egN tw n0) false)) k))))), (o, .inr (1, [.ref c1, .ref f1, .int (nI 0), .int (nI (htN tw 0))])), (c1, .inl (T 0, 60, .inl (fun k => nI (tw k)))), (f1, .inl (T 0, 60, .inl (fun k => nI (fN (eig (tw k)))))), (ol, .inl (T 1, 1, .inr (.inl (fun k => ou k))))] H := hP
  have hD : va_D A [(x, .inr (3, [.ref vs, .ref es, .ref o, .ref t])), (vs, .inl (T 0, 8, .inl (fun k => nI ((up yv p (rdV (egN tw n0) false)) k)))), (es, .inl (T 1, 8, .inr (.inl (fun k => edge ((up yv p (rdV (egN tw n0) false)) k))))), (o, .inr (1, [.ref c1, .ref f1, .int (nI 0), .int (nI (htN tw 0))])), (c1, .inl (T 0, 60, .inl (fun k => nI (tw k)))), (f1, .inl (T 0, 60, .inl (fun k => nI (fN (eig (tw k)))))), (ol, .inl (T 1, 1, .inr (.inl (fun k => ou k))))] := hD
  refine lv_i2l hx hb dL_melt_7 rfl ?_
  refine zf_l (x' := Int32.toInt64 (nI (htN tw n0) - fI (rdV (egN tw n0) false))) (rfl) ?_
  refine za_last hx hb hK hP hD hS 6 rfl 0 (rfl) (by decide) (by decide) (fun k => oS (Int32.toInt64 (nI (htN tw n0) - fI (rdV (egN tw n0) false))) ou k) (fun _ => rfl) dL_melt_8 (fun H locs hP hD hS => ?_)
  have hP : va_P D zcl [(x, .inr (3, [.ref vs, .ref es, .ref o, .ref t])), (vs, .inl (T 0, 8, .inl (fun k => nI ((up yv p (rdV (egN tw n0) false)) k)))), (es, .inl (T 1, 8, .inr (.inl (fun k => edge ((up yv p (rdV (egN tw n0) false)) k))))), (o, .inr (1, [.ref c1, .ref f1, .int (nI 0), .int (nI (htN tw 0))])), (c1, .inl (T 0, 60, .inl (fun k => nI (tw k)))), (f1, .inl (T 0, 60, .inl (fun k => nI (fN (eig (tw k)))))), (ol, .inl (T 1, 1, .inr (.inl (fun k => oS (Int32.toInt64 (nI (htN tw n0) - fI (rdV (egN tw n0) false))) ou k))))] H := hP
  have hD : va_D A [(x, .inr (3, [.ref vs, .ref es, .ref o, .ref t])), (vs, .inl (T 0, 8, .inl (fun k => nI ((up yv p (rdV (egN tw n0) false)) k)))), (es, .inl (T 1, 8, .inr (.inl (fun k => edge ((up yv p (rdV (egN tw n0) false)) k))))), (o, .inr (1, [.ref c1, .ref f1, .int (nI 0), .int (nI (htN tw 0))])), (c1, .inl (T 0, 60, .inl (fun k => nI (tw k)))), (f1, .inl (T 0, 60, .inl (fun k => nI (fN (eig (tw k)))))), (ol, .inl (T 1, 1, .inr (.inl (fun k => oS (Int32.toInt64 (nI (htN tw n0) - fI (rdV (egN tw n0) false))) ou k))))] := hD
  refine lv_goto (tgt := 21) hx hb dL_melt_9 (by decide) ?_
  refine lv_iconst (v := 0) hx hb dL_melt_21 (by decide) ?_
  refine zc_more (cells' := 1) (slots' := 6) (Nat.le_of_ble_eq_true rfl) (Nat.le_of_ble_eq_true rfl) ?_
  exact zh_iret () hx hb hr hlocks dL_melt_22 hP hD hS (rfl) (rfl)
set_option maxRecDepth 20000 in
theorem w_melt_big (l : Launch) (hlf : l.stackTraces = false) (D : va_G) (T : Nat → ClassId) (x vs es o t c1 f1 : Nat) (yv tw : Nat → Nat) (n0 : Nat) (ol : Nat) (ou : Nat → Int64) (p : Nat) (hp : p < 8) (hn0 : 0 < n0) (hn : n0 ≤ 60) (hr0 : 65535 < rdC (egN tw n0)) (ht : ∀ k, tw k < 262144)  : Cm l yL_melt cL_melt 4 (some FieldType.int) [((0 : Nat), (9 : Nat), (12 : Nat), (13 : Nat)), ((0 : Nat), (9 : Nat), (15 : Nat), (89 : Nat)), ((0 : Nat), (9 : Nat), (18 : Nat), (42 : Nat))] 8 D T [.ref x, .int (nI p), .ref ol] [(x, .inr (3, [.ref vs, .ref es, .ref o, .ref t])), (vs, .inl (T 0, 8, .inl (fun k => nI (yv k)))), (es, .inl (T 1, 8, .inr (.inl (fun k => edge (yv k))))), (o, .inr (1, [.ref c1, .ref f1, .int (nI n0), .int (nI (htN tw n0))])), (c1, .inl (T 0, 60, .inl (fun k => nI (tw k)))), (f1, .inl (T 0, 60, .inl (fun k => nI (fN (eig (tw k)))))), (ol, .inl (T 1, 1, .inr (.inl (fun k => ou k))))] (some (.int 3)) (fun _ : Unit => [(x, .inr (3, [.ref vs, .ref es, .ref o, .ref t])), (vs, .inl (T 0, 8, .inl (fun k => nI (yv k)))), (es, .inl (T 1, 8, .inr (.inl (fun k => edge (yv k))))), (o, .inr (1, [.ref c1, .ref f1, .int (nI n0), .int (nI (htN tw n0))])), (c1, .inl (T 0, 60, .inl (fun k => nI (tw k)))), (f1, .inl (T 0, 60, .inl (fun k => nI (fN (eig (tw k)))))), (ol, .inl (T 1, 1, .inr (.inl (fun k => ou k))))]) := by
  refine Cm.of (by decide) (Nat.le_of_ble_eq_true rfl) ?_
  intro zp ze s zm args below zmeth zc hx hb hr hml hown hts hlocks htab A hA hP hK hD hS hZ hN ls hl
  have hl : lv_has ls 4 [(0, .ref x), (1, .int (nI p)), (2, .ref ol)] := hl
  refine lv_aload_n hx hb dL_melt_0 rfl (lv_at hl 2 rfl) ?_
  refine lv_iconst (v := 0) hx hb dL_melt_1 (by decide) ?_
  refine lv_aload_n hx hb dL_melt_2 rfl (lv_at hl 0 rfl) ?_
  refine lv_iload_n hx hb dL_melt_3 rfl (lv_at hl 1 rfl) ?_
  refine zt_v (T := T) hx hb hml hown hts k_L_91 (t_X7_melt_big l hlf D T x vs es o t c1 f1 yv tw n0 p hp hn0 hn hr0 ht) ⟨by decide, by decide⟩ rfl hl.1 [.int 0, .ref ol] rfl (Nat.le_of_ble_eq_true rfl) dL_melt_4 ⟨Nat.le_of_ble_eq_true rfl, Nat.le_of_ble_eq_true rfl⟩ hK hP hD hS hA hZ (ci := 3) rfl rfl rfl [0, 1, 2, 3, 4, 5] [6] (wr := [(ol, .inl (T 1, 1, .inr (.inl (fun k => ou k))))]) rfl rfl (by decide) (by decide) (by decide) [1, 2, 3, 4, 5, 6, 0] (by decide) rfl (fun ce q9 H locs hP hD hS hce hcv hcl => ?_)
  refine zc_catch (hh := [((0 : Nat), (9 : Nat), (12 : Nat), (13 : Nat)), ((0 : Nat), (9 : Nat), (15 : Nat), (89 : Nat)), ((0 : Nat), (9 : Nat), (18 : Nat), (42 : Nat))]) (E := "java/lang/ArithmeticException") hown hts htab hZ hN hce hcv hcl [(⟨0, 9, 12, 13⟩ : ExceptionTableEntry), (⟨0, 9, 15, 89⟩ : ExceptionTableEntry)] (⟨0, 9, 18, 42⟩ : ExceptionTableEntry) [] rfl (fun z hz => by (rcases List.mem_cons.mp hz with h9 | h9); (rw [h9]; exact ⟨by decide, "java/lang/IndexOutOfBoundsException", u336, by decide⟩); (rw [List.mem_singleton.mp h9]; exact ⟨by decide, "java/util/NoSuchElementException", u680, by decide⟩)) (by decide) (by decide) u507 cs_519 ?_
  have hP : va_P D zcl [(x, .inr (3, [.ref vs, .ref es, .ref o, .ref t])), (vs, .inl (T 0, 8, .inl (fun k => nI (yv k)))), (es, .inl (T 1, 8, .inr (.inl (fun k => edge (yv k))))), (o, .inr (1, [.ref c1, .ref f1, .int (nI n0), .int (nI (htN tw n0))])), (c1, .inl (T 0, 60, .inl (fun k => nI (tw k)))), (f1, .inl (T 0, 60, .inl (fun k => nI (fN (eig (tw k)))))), (ol, .inl (T 1, 1, .inr (.inl (fun k => ou k))))] H := hP
  have hD : va_D A [(x, .inr (3, [.ref vs, .ref es, .ref o, .ref t])), (vs, .inl (T 0, 8, .inl (fun k => nI (yv k)))), (es, .inl (T 1, 8, .inr (.inl (fun k => edge (yv k))))), (o, .inr (1, [.ref c1, .ref f1, .int (nI n0), .int (nI (htN tw n0))])), (c1, .inl (T 0, 60, .inl (fun k => nI (tw k)))), (f1, .inl (T 0, 60, .inl (fun k => nI (fN (eig (tw k)))))), (ol, .inl (T 1, 1, .inr (.inl (fun k => ou k))))] := hD
  refine lv_astore_n (lv' := [(3, .ref q9), (0, .ref x), (1, .int (nI p)), (2, .ref ol)]) hx hb dL_melt_18 rfl hl (by decide) rfl (fun ls hl => ?_)
  refine lv_iconst (v := 3) hx hb dL_melt_19 (by decide) ?_
  refine zc_more (cells' := 1) (slots' := 6) (Nat.le_of_ble_eq_true rfl) (Nat.le_of_ble_eq_true rfl) ?_
  exact zh_iret () hx hb hr hlocks dL_melt_20 hP hD hS (rfl) (rfl)
set_option maxRecDepth 20000 in
theorem w_melt_none (l : Launch) (hlf : l.stackTraces = false) (D : va_G) (T : Nat → ClassId) (x vs es o t c1 f1 : Nat) (yv tw : Nat → Nat) (n0 : Nat) (ol : Nat) (ou : Nat → Int64) (p : Nat) (hp : p < 8) (hn : n0 = 0) : Cm l yL_melt cL_melt 4 (some FieldType.int) [((0 : Nat), (9 : Nat), (12 : Nat), (13 : Nat)), ((0 : Nat), (9 : Nat), (15 : Nat), (89 : Nat)), ((0 : Nat), (9 : Nat), (18 : Nat), (42 : Nat))] 8 D T [.ref x, .int (nI p), .ref ol] [(x, .inr (3, [.ref vs, .ref es, .ref o, .ref t])), (vs, .inl (T 0, 8, .inl (fun k => nI (yv k)))), (es, .inl (T 1, 8, .inr (.inl (fun k => edge (yv k))))), (o, .inr (1, [.ref c1, .ref f1, .int (nI n0), .int (nI (htN tw n0))])), (c1, .inl (T 0, 60, .inl (fun k => nI (tw k)))), (f1, .inl (T 0, 60, .inl (fun k => nI (fN (eig (tw k)))))), (ol, .inl (T 1, 1, .inr (.inl (fun k => ou k))))] (some (.int 2)) (fun _ : Unit => [(x, .inr (3, [.ref vs, .ref es, .ref o, .ref t])), (vs, .inl (T 0, 8, .inl (fun k => nI (yv k)))), (es, .inl (T 1, 8, .inr (.inl (fun k => edge (yv k))))), (o, .inr (1, [.ref c1, .ref f1, .int (nI n0), .int (nI (htN tw n0))])), (c1, .inl (T 0, 60, .inl (fun k => nI (tw k)))), (f1, .inl (T 0, 60, .inl (fun k => nI (fN (eig (tw k)))))), (ol, .inl (T 1, 1, .inr (.inl (fun k => ou k))))]) := by
  refine Cm.of (by decide) (Nat.le_of_ble_eq_true rfl) ?_
  intro zp ze s zm args below zmeth zc hx hb hr hml hown hts hlocks htab A hA hP hK hD hS hZ hN ls hl
  have hl : lv_has ls 4 [(0, .ref x), (1, .int (nI p)), (2, .ref ol)] := hl
  refine lv_aload_n hx hb dL_melt_0 rfl (lv_at hl 2 rfl) ?_
  refine lv_iconst (v := 0) hx hb dL_melt_1 (by decide) ?_
  refine lv_aload_n hx hb dL_melt_2 rfl (lv_at hl 0 rfl) ?_
  refine lv_iload_n hx hb dL_melt_3 rfl (lv_at hl 1 rfl) ?_
  refine zt_v (T := T) hx hb hml hown hts k_L_91 (t_X7_melt_none l hlf D T x vs es o t c1 f1 yv tw n0 p hp hn) ⟨by decide, by decide⟩ rfl hl.1 [.int 0, .ref ol] rfl (Nat.le_of_ble_eq_true rfl) dL_melt_4 ⟨Nat.le_of_ble_eq_true rfl, Nat.le_of_ble_eq_true rfl⟩ hK hP hD hS hA hZ (ci := 3) rfl rfl rfl [0, 1, 2, 3, 4, 5] [6] (wr := [(ol, .inl (T 1, 1, .inr (.inl (fun k => ou k))))]) rfl rfl (by decide) (by decide) (by decide) [1, 2, 3, 4, 5, 6, 0] (by decide) rfl (fun ce q9 H locs hP hD hS hce hcv hcl => ?_)
  refine zc_catch (hh := [((0 : Nat), (9 : Nat), (12 : Nat), (13 : Nat)), ((0 : Nat), (9 : Nat), (15 : Nat), (89 : Nat)), ((0 : Nat), (9 : Nat), (18 : Nat), (42 : Nat))]) (E := "java/util/NoSuchElementException") hown hts htab hZ hN hce hcv hcl [(⟨0, 9, 12, 13⟩ : ExceptionTableEntry)] (⟨0, 9, 15, 89⟩ : ExceptionTableEntry) [(⟨0, 9, 18, 42⟩ : ExceptionTableEntry)] rfl (fun z hz => by rw [List.mem_singleton.mp hz]; exact ⟨by decide, "java/lang/IndexOutOfBoundsException", u336, by decide⟩) (by decide) (by decide) u680 cs_692 ?_
  have hP : va_P D zcl [(x, .inr (3, [.ref vs, .ref es, .ref o, .ref t])), (vs, .inl (T 0, 8, .inl (fun k => nI (yv k)))), (es, .inl (T 1, 8, .inr (.inl (fun k => edge (yv k))))), (o, .inr (1, [.ref c1, .ref f1, .int (nI n0), .int (nI (htN tw n0))])), (c1, .inl (T 0, 60, .inl (fun k => nI (tw k)))), (f1, .inl (T 0, 60, .inl (fun k => nI (fN (eig (tw k)))))), (ol, .inl (T 1, 1, .inr (.inl (fun k => ou k))))] H := hP
  have hD : va_D A [(x, .inr (3, [.ref vs, .ref es, .ref o, .ref t])), (vs, .inl (T 0, 8, .inl (fun k => nI (yv k)))), (es, .inl (T 1, 8, .inr (.inl (fun k => edge (yv k))))), (o, .inr (1, [.ref c1, .ref f1, .int (nI n0), .int (nI (htN tw n0))])), (c1, .inl (T 0, 60, .inl (fun k => nI (tw k)))), (f1, .inl (T 0, 60, .inl (fun k => nI (fN (eig (tw k)))))), (ol, .inl (T 1, 1, .inr (.inl (fun k => ou k))))] := hD
  refine lv_astore_n (lv' := [(3, .ref q9), (0, .ref x), (1, .int (nI p)), (2, .ref ol)]) hx hb dL_melt_15 rfl hl (by decide) rfl (fun ls hl => ?_)
  refine lv_iconst (v := 2) hx hb dL_melt_16 (by decide) ?_
  refine zc_more (cells' := 1) (slots' := 6) (Nat.le_of_ble_eq_true rfl) (Nat.le_of_ble_eq_true rfl) ?_
  exact zh_iret () hx hb hr hlocks dL_melt_17 hP hD hS (rfl) (rfl)
set_option maxRecDepth 20000 in
theorem w_isNear_ok (l : Launch) (hlf : l.stackTraces = false) (D : va_G) (T : Nat → ClassId) (x vs es o t bl fl br fr bg fg : Nat) (yv : Nat → Nat) (NL NR NG : Nat) (ol : Nat) (ou : Nat → Int64) (p : Nat) (hp : p < 8) (hy : ∀ k, yv k < 262144) : Cm l yL_isNear cL_isNear 4 (some FieldType.int) [((0 : Nat), (16 : Nat), (19 : Nat), (13 : Nat))] 8 D T [.ref x, .int (nI p), .ref ol] [(x, .inr (3, [.ref vs, .ref es, .ref o, .ref t])), (vs, .inl (T 0, 8, .inl (fun k => nI (yv k)))), (es, .inl (T 1, 8, .inr (.inl (fun k => edge (yv k))))), (t, .inr (0, [.ref bl, .ref br, .ref bg])), (bl, .inr (2, [.ref fl])), (fl, .inl (T 1, 7, .inr (.inl (fun i => lN (lb NL i))))), (br, .inr (2, [.ref fr])), (fr, .inl (T 1, 7, .inr (.inl (fun i => lN (lb NR i))))), (bg, .inr (2, [.ref fg])), (fg, .inl (T 1, 7, .inr (.inl (fun i => lN (lb NG i))))), (ol, .inl (T 1, 1, .inr (.inl (fun k => ou k))))] (some (.int 0)) (fun g : Nat × Nat × Nat => [(x, .inr (3, [.ref vs, .ref es, .ref o, .ref t])), (vs, .inl (T 0, 8, .inl (fun k => nI (yv k)))), (es, .inl (T 1, 8, .inr (.inl (fun k => edge (yv k))))), (t, .inr (0, [.ref bl, .ref br, .ref bg])), (bl, .inr (2, [.ref fl])), (fl, .inl (T 1, 7, .inr (.inl (fun i => lN (lb g.1 i))))), (br, .inr (2, [.ref fr])), (fr, .inl (T 1, 7, .inr (.inl (fun i => lN (lb g.2.1 i))))), (bg, .inr (2, [.ref fg])), (fg, .inl (T 1, 7, .inr (.inl (fun i => lN (lb g.2.2 i))))), (ol, .inl (T 1, 1, .inr (.inl (fun k => (oS (1) ou) k))))]) := by
  refine Cm.of (by decide) (Nat.le_of_ble_eq_true rfl) ?_
  intro zp ze s zm args below zmeth zc hx hb hr hml hown hts hlocks htab A hA hP hK hD hS hZ hN ls hl
  have hl : lv_has ls 4 [(0, .ref x), (1, .int (nI p)), (2, .ref ol)] := hl
  refine lv_aload_n hx hb dL_isNear_0 rfl (lv_at hl 2 rfl) ?_
  refine lv_iconst (v := 0) hx hb dL_isNear_1 (by decide) ?_
  refine lv_aload_n hx hb dL_isNear_2 rfl (lv_at hl 0 rfl) ?_
  refine lv_iload_n hx hb dL_isNear_3 rfl (lv_at hl 1 rfl) ?_
  refine zh_v (T := T) hx hb hml hown hts k_L_61 (c_X7_isNear_ok l D T x vs es o t bl fl br fr bg fg yv NL NR NG p hp hy) ⟨by decide, by decide⟩ rfl hl.1 [.int 0, .ref ol] rfl (Nat.le_of_ble_eq_true rfl) dL_isNear_4 ⟨Nat.le_of_ble_eq_true rfl, Nat.le_of_ble_eq_true rfl⟩ hK hP hD hS hA (ci := 3) rfl rfl rfl [0, 1, 2, 3, 4, 5, 6, 7, 8, 9] [10] (wr := [(ol, .inl (T 1, 1, .inr (.inl (fun k => ou k))))]) rfl rfl (by decide) (by decide) (by decide) [1, 2, 3, 4, 5, 6, 7, 8, 9, 10, 0] (fun gg1 => [(x, .inr (3, [.ref vs, .ref es, .ref o, .ref t])), (vs, .inl (T 0, 8, .inl (fun k => nI (yv k)))), (es, .inl (T 1, 8, .inr (.inl (fun k => edge (yv k))))), (t, .inr (0, [.ref bl, .ref br, .ref bg])), (bl, .inr (2, [.ref fl])), (fl, .inl (T 1, 7, .inr (.inl (fun i => lN (lb gg1.1 i))))), (br, .inr (2, [.ref fr])), (fr, .inl (T 1, 7, .inr (.inl (fun i => lN (lb gg1.2.1 i))))), (bg, .inr (2, [.ref fg])), (fg, .inl (T 1, 7, .inr (.inl (fun i => lN (lb gg1.2.2 i))))), (ol, .inl (T 1, 1, .inr (.inl (fun k => ou k))))]) (by decide) (fun _ => rfl) (fun gg1 H locs hP hD hS => ?_)
  have hP : va_P D zcl [(x, .inr (3, [.ref vs, .ref es, .ref o, .ref t])), (vs, .inl (T 0, 8, .inl (fun k => nI (yv k)))), (es, .inl (T 1, 8, .inr (.inl (fun k => edge (yv k))))), (t, .inr (0, [.ref bl, .ref br, .ref bg])), (bl, .inr (2, [.ref fl])), (fl, .inl (T 1, 7, .inr (.inl (fun i => lN (lb gg1.1 i))))), (br, .inr (2, [.ref fr])), (fr, .inl (T 1, 7, .inr (.inl (fun i => lN (lb gg1.2.1 i))))), (bg, .inr (2, [.ref fg])), (fg, .inl (T 1, 7, .inr (.inl (fun i => lN (lb gg1.2.2 i))))), (ol, .inl (T 1, 1, .inr (.inl (fun k => ou k))))] H := hP
  have hD : va_D A [(x, .inr (3, [.ref vs, .ref es, .ref o, .ref t])), (vs, .inl (T 0, 8, .inl (fun k => nI (yv k)))), (es, .inl (T 1, 8, .inr (.inl (fun k => edge (yv k))))), (t, .inr (0, [.ref bl, .ref br, .ref bg])), (bl, .inr (2, [.ref fl])), (fl, .inl (T 1, 7, .inr (.inl (fun i => lN (lb gg1.1 i))))), (br, .inr (2, [.ref fr])), (fr, .inl (T 1, 7, .inr (.inl (fun i => lN (lb gg1.2.1 i))))), (bg, .inr (2, [.ref fg])), (fg, .inl (T 1, 7, .inr (.inl (fun i => lN (lb gg1.2.2 i))))), (ol, .inl (T 1, 1, .inr (.inl (fun k => ou k))))] := hD
  refine zb_eq (tgt := 14) hx hb dL_isNear_7 (by decide) (fun h1 => ?_) (fun h1 => ?_)
  · exact absurd h1 (by decide)
  · refine lv_lconst (v := 1) hx hb dL_isNear_10 (by decide) ?_
    refine lv_goto (tgt := 15) hx hb dL_isNear_11 (by decide) ?_
    refine za_last hx hb hK hP hD hS 10 rfl 0 (rfl) (by decide) (by decide) (fun k => oS (1) ou k) (fun _ => rfl) dL_isNear_15 (fun H locs hP hD hS => ?_)
    have hP : va_P D zcl [(x, .inr (3, [.ref vs, .ref es, .ref o, .ref t])), (vs, .inl (T 0, 8, .inl (fun k => nI (yv k)))), (es, .inl (T 1, 8, .inr (.inl (fun k => edge (yv k))))), (t, .inr (0, [.ref bl, .ref br, .ref bg])), (bl, .inr (2, [.ref fl])), (fl, .inl (T 1, 7, .inr (.inl (fun i => lN (lb gg1.1 i))))), (br, .inr (2, [.ref fr])), (fr, .inl (T 1, 7, .inr (.inl (fun i => lN (lb gg1.2.1 i))))), (bg, .inr (2, [.ref fg])), (fg, .inl (T 1, 7, .inr (.inl (fun i => lN (lb gg1.2.2 i))))), (ol, .inl (T 1, 1, .inr (.inl (fun k => oS (1) ou k))))] H := hP
    have hD : va_D A [(x, .inr (3, [.ref vs, .ref es, .ref o, .ref t])), (vs, .inl (T 0, 8, .inl (fun k => nI (yv k)))), (es, .inl (T 1, 8, .inr (.inl (fun k => edge (yv k))))), (t, .inr (0, [.ref bl, .ref br, .ref bg])), (bl, .inr (2, [.ref fl])), (fl, .inl (T 1, 7, .inr (.inl (fun i => lN (lb gg1.1 i))))), (br, .inr (2, [.ref fr])), (fr, .inl (T 1, 7, .inr (.inl (fun i => lN (lb gg1.2.1 i))))), (bg, .inr (2, [.ref fg])), (fg, .inl (T 1, 7, .inr (.inl (fun i => lN (lb gg1.2.2 i))))), (ol, .inl (T 1, 1, .inr (.inl (fun k => oS (1) ou k))))] := hD
    refine lv_goto (tgt := 22) hx hb dL_isNear_16 (by decide) ?_
    refine lv_iconst (v := 0) hx hb dL_isNear_22 (by decide) ?_
    refine zc_more (cells' := 1) (slots' := 6) (Nat.le_of_ble_eq_true rfl) (Nat.le_of_ble_eq_true rfl) ?_
    exact zh_iret (gg1.1, gg1.2.1, gg1.2.2) hx hb hr hlocks dL_isNear_23 hP hD hS (rfl) (rfl)
set_option maxRecDepth 20000 in
theorem w_multiply_ok (l : Launch) (hlf : l.stackTraces = false) (D : va_G) (T : Nat → ClassId) (x vs es o t bl fl br fr bg fg : Nat) (yv : Nat → Nat) (NL NR NG : Nat) (ol : Nat) (ou : Nat → Int64) (p : Nat) (hp : p < 8) (p2 : Nat) (hp2 : p2 < 8) (p3 : Nat) (hp3 : p3 < 8) (hm : eig (yv p) * eig (yv p2) % 8 = 0) (hr0 : rdC (eig (yv p) * eig (yv p2) / 8) ≤ 65535) (hy : ∀ k, yv k < 262144) : Cm l yL_multiply cL_multiply 6 (some FieldType.int) [((0 : Nat), (19 : Nat), (22 : Nat), (13 : Nat)), ((0 : Nat), (19 : Nat), (26 : Nat), (42 : Nat))] 8 D T [.ref x, .int (nI p), .int (nI p2), .int (nI p3), .ref ol] [(x, .inr (3, [.ref vs, .ref es, .ref o, .ref t])), (vs, .inl (T 0, 8, .inl (fun k => nI (yv k)))), (es, .inl (T 1, 8, .inr (.inl (fun k => edge (yv k))))), (t, .inr (0, [.ref bl, .ref br, .ref bg])), (bl, .inr (2, [.ref fl])), (fl, .inl (T 1, 7, .inr (.inl (fun i => lN (lb NL i))))), (br, .inr (2, [.ref fr])), (fr, .inl (T 1, 7, .inr (.inl (fun i => lN (lb NR i))))), (bg, .inr (2, [.ref fg])), (fg, .inl (T 1, 7, .inr (.inl (fun i => lN (lb NG i))))), (ol, .inl (T 1, 1, .inr (.inl (fun k => ou k))))] (some (.int 0)) (fun g : Nat × Nat × Nat => [(x, .inr (3, [.ref vs, .ref es, .ref o, .ref t])), (vs, .inl (T 0, 8, .inl (fun k => nI ((up yv p3 (rdV (eig (yv p) * eig (yv p2) / 8) (isB (yv p) != isB (yv p2)))) k)))), (es, .inl (T 1, 8, .inr (.inl (fun k => edge ((up yv p3 (rdV (eig (yv p) * eig (yv p2) / 8) (isB (yv p) != isB (yv p2)))) k))))), (t, .inr (0, [.ref bl, .ref br, .ref bg])), (bl, .inr (2, [.ref fl])), (fl, .inl (T 1, 7, .inr (.inl (fun i => lN (lb g.1 i))))), (br, .inr (2, [.ref fr])), (fr, .inl (T 1, 7, .inr (.inl (fun i => lN (lb g.2.1 i))))), (bg, .inr (2, [.ref fg])), (fg, .inl (T 1, 7, .inr (.inl (fun i => lN (lb g.2.2 i))))), (ol, .inl (T 1, 1, .inr (.inl (fun k => (oS (1) ou) k))))]) := by
  refine Cm.of (by decide) (Nat.le_of_ble_eq_true rfl) ?_
  intro zp ze s zm args below zmeth zc hx hb hr hml hown hts hlocks htab A hA hP hK hD hS hZ hN ls hl
  have hl : lv_has ls 6 [(0, .ref x), (1, .int (nI p)), (2, .int (nI p2)), (3, .int (nI p3)), (4, .ref ol)] := hl
  refine lv_aload hx hb dL_multiply_0 (lv_at hl 4 rfl) ?_
  refine lv_iconst (v := 0) hx hb dL_multiply_2 (by decide) ?_
  refine lv_aload_n hx hb dL_multiply_3 rfl (lv_at hl 0 rfl) ?_
  refine lv_iload_n hx hb dL_multiply_4 rfl (lv_at hl 1 rfl) ?_
  refine lv_iload_n hx hb dL_multiply_5 rfl (lv_at hl 2 rfl) ?_
  refine lv_iload_n hx hb dL_multiply_6 rfl (lv_at hl 3 rfl) ?_
  refine zh_v (T := T) hx hb hml hown hts k_L_64 (c_X7_multiply_ok l D T x vs es o t bl fl br fr bg fg yv NL NR NG p hp p2 hp2 p3 hp3 hm hr0 hy) ⟨by decide, by decide⟩ rfl hl.1 [.int 0, .ref ol] rfl (Nat.le_of_ble_eq_true rfl) dL_multiply_7 ⟨Nat.le_of_ble_eq_true rfl, Nat.le_of_ble_eq_true rfl⟩ hK hP hD hS hA (ci := 3) rfl rfl rfl [0, 1, 2, 3, 4, 5, 6, 7, 8, 9] [10] (wr := [(ol, .inl (T 1, 1, .inr (.inl (fun k => ou k))))]) rfl rfl (by decide) (by decide) (by decide) [1, 2, 3, 4, 5, 6, 7, 8, 9, 10, 0] (fun gg2 => [(x, .inr (3, [.ref vs, .ref es, .ref o, .ref t])), (vs, .inl (T 0, 8, .inl (fun k => nI ((up yv p3 (rdV (eig (yv p) * eig (yv p2) / 8) (isB (yv p) != isB (yv p2)))) k)))), (es, .inl (T 1, 8, .inr (.inl (fun k => edge ((up yv p3 (rdV (eig (yv p) * eig (yv p2) / 8) (isB (yv p) != isB (yv p2)))) k))))), (t, .inr (0, [.ref bl, .ref br, .ref bg])), (bl, .inr (2, [.ref fl])), (fl, .inl (T 1, 7, .inr (.inl (fun i => lN (lb gg2.1 i))))), (br, .inr (2, [.ref fr])), (fr, .inl (T 1, 7, .inr (.inl (fun i => lN (lb gg2.2.1 i))))), (bg, .inr (2, [.ref fg])), (fg, .inl (T 1, 7, .inr (.inl (fun i => lN (lb gg2.2.2 i))))), (ol, .inl (T 1, 1, .inr (.inl (fun k => ou k))))]) (by decide) (fun _ => rfl) (fun gg2 H locs hP hD hS => ?_)
  have hP : va_P D zcl [(x, .inr (3, [.ref vs, .ref es, .ref o, .ref t])), (vs, .inl (T 0, 8, .inl (fun k => nI ((up yv p3 (rdV (eig (yv p) * eig (yv p2) / 8) (isB (yv p) != isB (yv p2)))) k)))), (es, .inl (T 1, 8, .inr (.inl (fun k => edge ((up yv p3 (rdV (eig (yv p) * eig (yv p2) / 8) (isB (yv p) != isB (yv p2)))) k))))), (t, .inr (0, [.ref bl, .ref br, .ref bg])), (bl, .inr (2, [.ref fl])), (fl, .inl (T 1, 7, .inr (.inl (fun i => lN (lb gg2.1 i))))), (br, .inr (2, [.ref fr])), (fr, .inl (T 1, 7, .inr (.inl (fun i => lN (lb gg2.2.1 i))))), (bg, .inr (2, [.ref fg])), (fg, .inl (T 1, 7, .inr (.inl (fun i => lN (lb gg2.2.2 i))))), (ol, .inl (T 1, 1, .inr (.inl (fun k => ou k))))] H := hP
  have hD : va_D A [(x, .inr (3, [.ref vs, .ref es, .ref o, .ref t])), (vs, .inl (T 0, 8, .inl (fun k => nI ((up yv p3 (rdV (eig (yv p) * eig (yv p2) / 8) (isB (yv p) != isB (yv p2)))) k)))), (es, .inl (T 1, 8, .inr (.inl (fun k => edge ((up yv p3 (rdV (eig (yv p) * eig (yv p2) / 8) (isB (yv p) != isB (yv p2)))) k))))), (t, .inr (0, [.ref bl, .ref br, .ref bg])), (bl, .inr (2, [.ref fl])), (fl, .inl (T 1, 7, .inr (.inl (fun i => lN (lb gg2.1 i))))), (br, .inr (2, [.ref fr])), (fr, .inl (T 1, 7, .inr (.inl (fun i => lN (lb gg2.2.1 i))))), (bg, .inr (2, [.ref fg])), (fg, .inl (T 1, 7, .inr (.inl (fun i => lN (lb gg2.2.2 i))))), (ol, .inl (T 1, 1, .inr (.inl (fun k => ou k))))] := hD
  refine zb_eq (tgt := 17) hx hb dL_multiply_10 (by decide) (fun h1 => ?_) (fun h1 => ?_)
  · exact absurd h1 (by decide)
  · refine lv_lconst (v := 1) hx hb dL_multiply_13 (by decide) ?_
    refine lv_goto (tgt := 18) hx hb dL_multiply_14 (by decide) ?_
    refine za_last hx hb hK hP hD hS 10 rfl 0 (rfl) (by decide) (by decide) (fun k => oS (1) ou k) (fun _ => rfl) dL_multiply_18 (fun H locs hP hD hS => ?_)
    have hP : va_P D zcl [(x, .inr (3, [.ref vs, .ref es, .ref o, .ref t])), (vs, .inl (T 0, 8, .inl (fun k => nI ((up yv p3 (rdV (eig (yv p) * eig (yv p2) / 8) (isB (yv p) != isB (yv p2)))) k)))), (es, .inl (T 1, 8, .inr (.inl (fun k => edge ((up yv p3 (rdV (eig (yv p) * eig (yv p2) / 8) (isB (yv p) != isB (yv p2)))) k))))), (t, .inr (0, [.ref bl, .ref br, .ref bg])), (bl, .inr (2, [.ref fl])), (fl, .inl (T 1, 7, .inr (.inl (fun i => lN (lb gg2.1 i))))), (br, .inr (2, [.ref fr])), (fr, .inl (T 1, 7, .inr (.inl (fun i => lN (lb gg2.2.1 i))))), (bg, .inr (2, [.ref fg])), (fg, .inl (T 1, 7, .inr (.inl (fun i => lN (lb gg2.2.2 i))))), (ol, .inl (T 1, 1, .inr (.inl (fun k => oS (1) ou k))))] H := hP
    have hD : va_D A [(x, .inr (3, [.ref vs, .ref es, .ref o, .ref t])), (vs, .inl (T 0, 8, .inl (fun k => nI ((up yv p3 (rdV (eig (yv p) * eig (yv p2) / 8) (isB (yv p) != isB (yv p2)))) k)))), (es, .inl (T 1, 8, .inr (.inl (fun k => edge ((up yv p3 (rdV (eig (yv p) * eig (yv p2) / 8) (isB (yv p) != isB (yv p2)))) k))))), (t, .inr (0, [.ref bl, .ref br, .ref bg])), (bl, .inr (2, [.ref fl])), (fl, .inl (T 1, 7, .inr (.inl (fun i => lN (lb gg2.1 i))))), (br, .inr (2, [.ref fr])), (fr, .inl (T 1, 7, .inr (.inl (fun i => lN (lb gg2.2.1 i))))), (bg, .inr (2, [.ref fg])), (fg, .inl (T 1, 7, .inr (.inl (fun i => lN (lb gg2.2.2 i))))), (ol, .inl (T 1, 1, .inr (.inl (fun k => oS (1) ou k))))] := hD
    refine lv_goto (tgt := 30) hx hb dL_multiply_19 (by decide) ?_
    refine lv_iconst (v := 0) hx hb dL_multiply_30 (by decide) ?_
    refine zc_more (cells' := 1) (slots' := 6) (Nat.le_of_ble_eq_true rfl) (Nat.le_of_ble_eq_true rfl) ?_
    exact zh_iret (gg2.1, gg2.2.1, gg2.2.2) hx hb hr hlocks dL_multiply_31 hP hD hS (rfl) (rfl)
set_option maxRecDepth 20000 in
theorem w_isNear_no (l : Launch) (hlf : l.stackTraces = false) (D : va_G) (T : Nat → ClassId) (x vs es o t : Nat) (yv : Nat → Nat) (ol : Nat) (ou : Nat → Int64) (x0 : Int32) (hx0 : m_X8_is x0 = false) : Cm l yL_isNear cL_isNear 4 (some FieldType.int) [((0 : Nat), (16 : Nat), (19 : Nat), (13 : Nat))] 8 D T [.ref x, .int x0, .ref ol] [(x, .inr (3, [.ref vs, .ref es, .ref o, .ref t])), (vs, .inl (T 0, 8, .inl (fun k => nI (yv k)))), (es, .inl (T 1, 8, .inr (.inl (fun k => edge (yv k))))), (ol, .inl (T 1, 1, .inr (.inl (fun k => ou k))))] (some (.int 1)) (fun _ : Unit => [(x, .inr (3, [.ref vs, .ref es, .ref o, .ref t])), (vs, .inl (T 0, 8, .inl (fun k => nI (yv k)))), (es, .inl (T 1, 8, .inr (.inl (fun k => edge (yv k))))), (ol, .inl (T 1, 1, .inr (.inl (fun k => ou k))))]) := by
  refine Cm.of (by decide) (Nat.le_of_ble_eq_true rfl) ?_
  intro zp ze s zm args below zmeth zc hx hb hr hml hown hts hlocks htab A hA hP hK hD hS hZ hN ls hl
  have hl : lv_has ls 4 [(0, .ref x), (1, .int x0), (2, .ref ol)] := hl
  refine lv_aload_n hx hb dL_isNear_0 rfl (lv_at hl 2 rfl) ?_
  refine lv_iconst (v := 0) hx hb dL_isNear_1 (by decide) ?_
  refine lv_aload_n hx hb dL_isNear_2 rfl (lv_at hl 0 rfl) ?_
  refine lv_iload_n hx hb dL_isNear_3 rfl (lv_at hl 1 rfl) ?_
  refine zt_v (T := T) hx hb hml hown hts k_L_61 (t_X7_isNear_no l hlf D T x vs es o t yv x0 hx0) ⟨by decide, by decide⟩ rfl hl.1 [.int 0, .ref ol] rfl (Nat.le_of_ble_eq_true rfl) dL_isNear_4 ⟨Nat.le_of_ble_eq_true rfl, Nat.le_of_ble_eq_true rfl⟩ hK hP hD hS hA hZ (ci := 3) rfl rfl rfl [0, 1, 2] [3] (wr := [(ol, .inl (T 1, 1, .inr (.inl (fun k => ou k))))]) rfl rfl (by decide) (by decide) (by decide) [1, 2, 3, 0] (by decide) rfl (fun ce q9 H locs hP hD hS hce hcv hcl => ?_)
  refine zc_catch (hh := [((0 : Nat), (16 : Nat), (19 : Nat), (13 : Nat))]) (E := "java/lang/IndexOutOfBoundsException") hown hts htab hZ hN hce hcv hcl [] (⟨0, 16, 19, 13⟩ : ExceptionTableEntry) [] rfl (fun z hz => nomatch hz) (by decide) (by decide) u336 cs_425 ?_
  have hP : va_P D zcl [(x, .inr (3, [.ref vs, .ref es, .ref o, .ref t])), (vs, .inl (T 0, 8, .inl (fun k => nI (yv k)))), (es, .inl (T 1, 8, .inr (.inl (fun k => edge (yv k))))), (ol, .inl (T 1, 1, .inr (.inl (fun k => ou k))))] H := hP
  have hD : va_D A [(x, .inr (3, [.ref vs, .ref es, .ref o, .ref t])), (vs, .inl (T 0, 8, .inl (fun k => nI (yv k)))), (es, .inl (T 1, 8, .inr (.inl (fun k => edge (yv k))))), (ol, .inl (T 1, 1, .inr (.inl (fun k => ou k))))] := hD
  refine lv_astore_n (lv' := [(3, .ref q9), (0, .ref x), (1, .int x0), (2, .ref ol)]) hx hb dL_isNear_19 rfl hl (by decide) rfl (fun ls hl => ?_)
  refine lv_iconst (v := 1) hx hb dL_isNear_20 (by decide) ?_
  refine zc_more (cells' := 1) (slots' := 6) (Nat.le_of_ble_eq_true rfl) (Nat.le_of_ble_eq_true rfl) ?_
  exact zh_iret () hx hb hr hlocks dL_isNear_21 hP hD hS (rfl) (rfl)
set_option maxRecDepth 20000 in
theorem w_multiply_no (l : Launch) (hlf : l.stackTraces = false) (D : va_G) (T : Nat → ClassId) (x vs es o t : Nat) (yv : Nat → Nat) (ol : Nat) (ou : Nat → Int64) (x0 y0 z0 : Int32) (hx0 : (m_X8_is x0 && m_X8_is y0 && m_X8_is z0) = false) : Cm l yL_multiply cL_multiply 6 (some FieldType.int) [((0 : Nat), (19 : Nat), (22 : Nat), (13 : Nat)), ((0 : Nat), (19 : Nat), (26 : Nat), (42 : Nat))] 8 D T [.ref x, .int x0, .int y0, .int z0, .ref ol] [(x, .inr (3, [.ref vs, .ref es, .ref o, .ref t])), (vs, .inl (T 0, 8, .inl (fun k => nI (yv k)))), (es, .inl (T 1, 8, .inr (.inl (fun k => edge (yv k))))), (ol, .inl (T 1, 1, .inr (.inl (fun k => ou k))))] (some (.int 1)) (fun _ : Unit => [(x, .inr (3, [.ref vs, .ref es, .ref o, .ref t])), (vs, .inl (T 0, 8, .inl (fun k => nI (yv k)))), (es, .inl (T 1, 8, .inr (.inl (fun k => edge (yv k))))), (ol, .inl (T 1, 1, .inr (.inl (fun k => ou k))))]) := by
  refine Cm.of (by decide) (Nat.le_of_ble_eq_true rfl) ?_
  intro zp ze s zm args below zmeth zc hx hb hr hml hown hts hlocks htab A hA hP hK hD hS hZ hN ls hl
  have hl : lv_has ls 6 [(0, .ref x), (1, .int x0), (2, .int y0), (3, .int z0), (4, .ref ol)] := hl
  refine lv_aload hx hb dL_multiply_0 (lv_at hl 4 rfl) ?_
  refine lv_iconst (v := 0) hx hb dL_multiply_2 (by decide) ?_
  refine lv_aload_n hx hb dL_multiply_3 rfl (lv_at hl 0 rfl) ?_
  refine lv_iload_n hx hb dL_multiply_4 rfl (lv_at hl 1 rfl) ?_
  refine lv_iload_n hx hb dL_multiply_5 rfl (lv_at hl 2 rfl) ?_
  refine lv_iload_n hx hb dL_multiply_6 rfl (lv_at hl 3 rfl) ?_
  refine zt_v (T := T) hx hb hml hown hts k_L_64 (t_X7_multiply_no l hlf D T x vs es o t yv x0 y0 z0 hx0) ⟨by decide, by decide⟩ rfl hl.1 [.int 0, .ref ol] rfl (Nat.le_of_ble_eq_true rfl) dL_multiply_7 ⟨Nat.le_of_ble_eq_true rfl, Nat.le_of_ble_eq_true rfl⟩ hK hP hD hS hA hZ (ci := 3) rfl rfl rfl [0, 1, 2] [3] (wr := [(ol, .inl (T 1, 1, .inr (.inl (fun k => ou k))))]) rfl rfl (by decide) (by decide) (by decide) [1, 2, 3, 0] (by decide) rfl (fun ce q9 H locs hP hD hS hce hcv hcl => ?_)
  refine zc_catch (hh := [((0 : Nat), (19 : Nat), (22 : Nat), (13 : Nat)), ((0 : Nat), (19 : Nat), (26 : Nat), (42 : Nat))]) (E := "java/lang/IndexOutOfBoundsException") hown hts htab hZ hN hce hcv hcl [] (⟨0, 19, 22, 13⟩ : ExceptionTableEntry) [(⟨0, 19, 26, 42⟩ : ExceptionTableEntry)] rfl (fun z hz => nomatch hz) (by decide) (by decide) u336 cs_425 ?_
  have hP : va_P D zcl [(x, .inr (3, [.ref vs, .ref es, .ref o, .ref t])), (vs, .inl (T 0, 8, .inl (fun k => nI (yv k)))), (es, .inl (T 1, 8, .inr (.inl (fun k => edge (yv k))))), (ol, .inl (T 1, 1, .inr (.inl (fun k => ou k))))] H := hP
  have hD : va_D A [(x, .inr (3, [.ref vs, .ref es, .ref o, .ref t])), (vs, .inl (T 0, 8, .inl (fun k => nI (yv k)))), (es, .inl (T 1, 8, .inr (.inl (fun k => edge (yv k))))), (ol, .inl (T 1, 1, .inr (.inl (fun k => ou k))))] := hD
  refine lv_astore (lv' := [(5, .ref q9), (0, .ref x), (1, .int x0), (2, .int y0), (3, .int z0), (4, .ref ol)]) hx hb dL_multiply_22 hl (by decide) rfl (fun ls hl => ?_)
  refine lv_iconst (v := 1) hx hb dL_multiply_24 (by decide) ?_
  refine zc_more (cells' := 1) (slots' := 6) (Nat.le_of_ble_eq_true rfl) (Nat.le_of_ble_eq_true rfl) ?_
  exact zh_iret () hx hb hr hlocks dL_multiply_25 hP hD hS (rfl) (rfl)
set_option maxRecDepth 20000 in
theorem w_multiply_none (l : Launch) (hlf : l.stackTraces = false) (D : va_G) (T : Nat → ClassId) (x vs es o t : Nat) (yv : Nat → Nat) (ol : Nat) (ou : Nat → Int64) (p : Nat) (hp : p < 8) (p2 : Nat) (hp2 : p2 < 8) (p3 : Nat) (hp3 : p3 < 8) (hm : ¬ (eig (yv p) * eig (yv p2) % 8 = 0 ∧ rdC (eig (yv p) * eig (yv p2) / 8) ≤ 65535)) (hy : ∀ k, yv k < 262144) : Cm l yL_multiply cL_multiply 6 (some FieldType.int) [((0 : Nat), (19 : Nat), (22 : Nat), (13 : Nat)), ((0 : Nat), (19 : Nat), (26 : Nat), (42 : Nat))] 8 D T [.ref x, .int (nI p), .int (nI p2), .int (nI p3), .ref ol] [(x, .inr (3, [.ref vs, .ref es, .ref o, .ref t])), (vs, .inl (T 0, 8, .inl (fun k => nI (yv k)))), (es, .inl (T 1, 8, .inr (.inl (fun k => edge (yv k))))), (ol, .inl (T 1, 1, .inr (.inl (fun k => ou k))))] (some (.int 2)) (fun _ : Unit => [(x, .inr (3, [.ref vs, .ref es, .ref o, .ref t])), (vs, .inl (T 0, 8, .inl (fun k => nI (yv k)))), (es, .inl (T 1, 8, .inr (.inl (fun k => edge (yv k))))), (ol, .inl (T 1, 1, .inr (.inl (fun k => ou k))))]) := by
  refine Cm.of (by decide) (Nat.le_of_ble_eq_true rfl) ?_
  intro zp ze s zm args below zmeth zc hx hb hr hml hown hts hlocks htab A hA hP hK hD hS hZ hN ls hl
  have hl : lv_has ls 6 [(0, .ref x), (1, .int (nI p)), (2, .int (nI p2)), (3, .int (nI p3)), (4, .ref ol)] := hl
  refine lv_aload hx hb dL_multiply_0 (lv_at hl 4 rfl) ?_
  refine lv_iconst (v := 0) hx hb dL_multiply_2 (by decide) ?_
  refine lv_aload_n hx hb dL_multiply_3 rfl (lv_at hl 0 rfl) ?_
  refine lv_iload_n hx hb dL_multiply_4 rfl (lv_at hl 1 rfl) ?_
  refine lv_iload_n hx hb dL_multiply_5 rfl (lv_at hl 2 rfl) ?_
  refine lv_iload_n hx hb dL_multiply_6 rfl (lv_at hl 3 rfl) ?_
  refine zt_v (T := T) hx hb hml hown hts k_L_64 (t_X7_multiply_none l hlf D T x vs es o t yv p hp p2 hp2 p3 hp3 hm hy) ⟨by decide, by decide⟩ rfl hl.1 [.int 0, .ref ol] rfl (Nat.le_of_ble_eq_true rfl) dL_multiply_7 ⟨Nat.le_of_ble_eq_true rfl, Nat.le_of_ble_eq_true rfl⟩ hK hP hD hS hA hZ (ci := 3) rfl rfl rfl [0, 1, 2] [3] (wr := [(ol, .inl (T 1, 1, .inr (.inl (fun k => ou k))))]) rfl rfl (by decide) (by decide) (by decide) [1, 2, 3, 0] (by decide) rfl (fun ce q9 H locs hP hD hS hce hcv hcl => ?_)
  refine zc_catch (hh := [((0 : Nat), (19 : Nat), (22 : Nat), (13 : Nat)), ((0 : Nat), (19 : Nat), (26 : Nat), (42 : Nat))]) (E := "java/lang/ArithmeticException") hown hts htab hZ hN hce hcv hcl [(⟨0, 19, 22, 13⟩ : ExceptionTableEntry)] (⟨0, 19, 26, 42⟩ : ExceptionTableEntry) [] rfl (fun z hz => by rw [List.mem_singleton.mp hz]; exact ⟨by decide, "java/lang/IndexOutOfBoundsException", u336, by decide⟩) (by decide) (by decide) u507 cs_519 ?_
  have hP : va_P D zcl [(x, .inr (3, [.ref vs, .ref es, .ref o, .ref t])), (vs, .inl (T 0, 8, .inl (fun k => nI (yv k)))), (es, .inl (T 1, 8, .inr (.inl (fun k => edge (yv k))))), (ol, .inl (T 1, 1, .inr (.inl (fun k => ou k))))] H := hP
  have hD : va_D A [(x, .inr (3, [.ref vs, .ref es, .ref o, .ref t])), (vs, .inl (T 0, 8, .inl (fun k => nI (yv k)))), (es, .inl (T 1, 8, .inr (.inl (fun k => edge (yv k))))), (ol, .inl (T 1, 1, .inr (.inl (fun k => ou k))))] := hD
  refine lv_astore (lv' := [(5, .ref q9), (0, .ref x), (1, .int (nI p)), (2, .int (nI p2)), (3, .int (nI p3)), (4, .ref ol)]) hx hb dL_multiply_26 hl (by decide) rfl (fun ls hl => ?_)
  refine lv_iconst (v := 2) hx hb dL_multiply_28 (by decide) ?_
  refine zc_more (cells' := 1) (slots' := 6) (Nat.le_of_ble_eq_true rfl) (Nat.le_of_ble_eq_true rfl) ?_
  exact zh_iret () hx hb hr hlocks dL_multiply_29 hP hD hS (rfl) (rfl)
