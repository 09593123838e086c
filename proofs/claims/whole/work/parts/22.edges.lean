/-! The class Cubeyard: what the edges of all volumes tell. -/
theorem rootF_le (v : Nat) : ∀ (n f : Nat), f * f * f ≤ v → rootF v n f * rootF v n f * rootF v n f ≤ v
  | 0, _, h => h
  | n + 1, f, h => by
    by_cases h2 : (f + 2 ^ n) * (f + 2 ^ n) * (f + 2 ^ n) ≤ v
    · rw [rootF, if_pos h2]; exact rootF_le v n _ h2
    · rw [rootF, if_neg h2]; exact rootF_le v n _ h
theorem cube_mono {a b : Nat} (h : a ≤ b) : a * a * a ≤ b * b * b := Nat.mul_le_mul (Nat.mul_le_mul h h) h
theorem rootF_ge (v g : Nat) (hg : g * g * g ≤ v) : ∀ (n f : Nat), g < f + 2 ^ n → g ≤ rootF v n f
  | 0, f, h => by show g ≤ f; omega
  | n + 1, f, h => by
    have h2 : 2 ^ (n + 1) = 2 ^ n * 2 := Nat.pow_succ 2 n
    show g ≤ rootF v n (if _ then _ else _)
    split
    · exact rootF_ge v g hg n (f + 2 ^ n) (by omega)
    · rename_i h3
      refine rootF_ge v g hg n _ (Nat.not_le.mp fun q => h3 (Nat.le_trans (cube_mono q) hg))
theorem rt_le (v : Nat) : rt v * rt v * rt v ≤ v := rootF_le v 16 0 (Nat.zero_le _)
theorem rt_ge {v g : Nat} (h : g < 65536) (hg : g * g * g ≤ v) : g ≤ rt v := rootF_ge v g hg 16 0 (by omega)
theorem rt_lt16 (v : Nat) : rt v < 65536 := by
  have := rt_lt v 16 0
  unfold rt
  omega
theorem rt_iff {v g : Nat} (h : g < 65536) : g ≤ rt v ↔ g * g * g ≤ v := ⟨fun q => Nat.le_trans (cube_mono q) (rt_le v), rt_ge h⟩
def kd1 (b : Bool) : Nat := if b = true then 1 else 0
theorem kd1_mk (c : Nat) (b : Bool) : 4 * c + kd1 b = mk c b false := by cases b <;> rfl
theorem pt_eig (c : Nat) (b : Bool) : eig (mk c b false) * 2 ^ 27 = c * pt b := by
  rw [eig_mk]
  cases b
  · show 8 * c * 2 ^ 27 = c * 1073741824
    omega
  · rfl
theorem fc_iff {f c : Nat} (b : Bool) (hf : f < 65536) : f ≤ fN (eig (mk c b false)) ↔ fcN f b ≤ c := by
  unfold fN
  rw [rt_iff hf, pt_eig]
  unfold fcN
  have hp := (pt_b b).1
  generalize pt b = p at *
  generalize f * f * f = g
  constructor
  · intro h
    refine Nat.le_of_lt_succ (Nat.div_lt_of_lt_mul ?_)
    rw [Nat.mul_succ, Nat.mul_comm]
    omega
  · intro h
    have h1 := Nat.div_add_mod (g + p - 1) p
    have h2 := Nat.mod_lt (g + p - 1) hp
    have h3 : p * ((g + p - 1) / p) ≤ c * p := by rw [Nat.mul_comm c]; exact Nat.mul_le_mul_left p h
    omega
theorem fc_high (b : Bool) : 65535 < fcN 65536 b := by cases b <;> decide
/-- for every x: which is the least count whose fine edge is at least x -/
def fits0 (x : Int32) (b : Bool) (C : Nat) : Prop := C ≤ 65535 ∧ ∀ c, c ≤ 65535 → (x ≤ nI (fN (eig (mk c b false))) ↔ C ≤ c)
theorem fits_ok {f : Nat} {b : Bool} (hf2 : f ≤ 65536) (hc : fcN f b ≤ 65535) : fits0 (nI f) b (fcN f b) := by
  have hf : f < 65536 := by
    rcases Nat.lt_or_ge f 65536 with h | h
    · exact h
    · have e : f = 65536 := by omega
      subst e
      exact absurd (fc_high b) (by omega)
  refine ⟨hc, fun c hc2 => ?_⟩
  have h1 := fN_lt (eig (mk c b false))
  rw [← fc_iff b hf, Int32.le_iff_toInt_le, nI_toInt (by omega), nI_toInt (by omega)]
  omega
theorem fits_low {x : Int32} {b : Bool} (hx0 : ¬ 0 < x) : fits0 x b 0 := by
  refine ⟨by decide, fun c hc2 => ⟨fun _ => Nat.zero_le _, fun _ => ?_⟩⟩
  have h1 := fN_lt (eig (mk c b false))
  rw [Int32.le_iff_toInt_le, nI_toInt (by omega)]
  have h2 := Int32.not_lt.mp hx0
  rw [Int32.le_iff_toInt_le, Int32.toInt_zero] at h2
  omega
theorem fits_no {f : Nat} {b : Bool} (hf2 : f ≤ 65536) (hc : 65535 < fcN f b) : ¬ nI f ≤ nI (fN (eig (mk 65535 b false))) := by
  have h1 := fN_lt (eig (mk 65535 b false))
  rw [Int32.le_iff_toInt_le, nI_toInt (by omega), nI_toInt (by omega)]
  rcases Nat.lt_or_ge f 65536 with h | h
  · have h2 := (fc_iff (c := 65535) b h)
    intro q
    have := h2.mp (by omega)
    omega
  · omega
theorem fits_high {x : Int32} {b : Bool} (hx1 : ¬ x ≤ 65536) : ¬ x ≤ nI (fN (eig (mk 65535 b false))) := by
  have h1 := fN_lt (eig (mk 65535 b false))
  rw [Int32.le_iff_toInt_le] at hx1
  rw [show (65536 : Int32) = nI 65536 from rfl, nI_toInt (by decide)] at hx1
  rw [Int32.le_iff_toInt_le, nI_toInt (by omega)]
  omega
theorem nI_pm {t s : Nat} (h : 0 < s) : nI t - 1 + nI s = nI (t + s - 1) := by
  obtain ⟨k, rfl⟩ : ∃ k, s = k + 1 := ⟨s - 1, by omega⟩
  rw [← nI_1 k, Int32.sub_eq_add_neg, Int32.add_assoc, Int32.add_comm (nI k) 1, ← Int32.add_assoc (-1) 1, show (-1 : Int32) + 1 = 0 from rfl, Int32.zero_add, nI_add]
  rfl
theorem nI_pm' {t s : Nat} (h : 0 < s) : nI t - 1 + nI s = nI (t + s) - 1 := by
  rw [nI_pm h]
  obtain ⟨k, hk⟩ : ∃ k, t + s = k + 1 := ⟨t + s - 1, by omega⟩
  rw [hk, nI_pred]
  rfl
theorem nI_m1 (t : Nat) : nI t - 1 + 1 = nI t := by
  rw [Int32.sub_eq_add_neg, Int32.add_assoc, show (-1 : Int32) + 1 = 0 from rfl, Int32.add_zero]
theorem arC_1 {x y : Int32} (h : arC x y = true) : ¬ y < 0 := fun q => by
  unfold arC at h
  rw [if_pos q] at h
  exact absurd h (by decide)
theorem arC_2 {x y : Int32} (h : arC x y = true) : y ≤ 256 := by
  refine Int32.not_lt.mp fun q => ?_
  unfold arC at h
  rw [if_neg (arC_1 (x := x) (y := y) h), if_pos q] at h
  exact absurd h (by decide)
theorem arC_0 {x y : Int32} (h1 : ¬ y < 0) (h2 : y ≤ 256) (h3 : ¬ y ≤ 0) : arC x y = if x < 0 then false else if 65535 < Int32.toInt64 x + Int32.toInt64 y - 1 then false else true := by
  unfold arC
  rw [if_neg h1, if_neg (Int32.not_lt.mpr h2), if_neg (fun q => h3 (by rw [q]; decide))]
theorem arC_l {x y : Int32} (h1 : ¬ y < 0) (h2 : y ≤ 256) (h3 : ¬ y ≤ 0) (h4 : ¬ x < 0) : x ≤ 65536 - y ↔ ¬ 65535 < Int32.toInt64 x + Int32.toInt64 y - 1 := by
  rw [Int32.lt_iff_toInt_lt, Int32.toInt_zero] at h1 h4
  rw [Int32.le_iff_toInt_le] at h2 h3
  rw [show (256 : Int32).toInt = 256 from by decide] at h2
  rw [Int32.toInt_zero] at h3
  have hx := Int32.toInt_lt x
  rw [Int32.le_iff_toInt_le, Int64.lt_iff_toInt_lt, Int32.toInt_sub, show (65536 : Int32).toInt = 65536 from by decide, show (65535 : Int64).toInt = 65535 from by decide, Int64.toInt_sub, Int64.toInt_add, Int32.toInt_toInt64, Int32.toInt_toInt64, show (1 : Int64).toInt = 1 from by decide, Int.bmod_eq_of_le (by omega) (by omega), Int.bmod_eq_of_le (n := x.toInt + y.toInt) (by omega) (by omega), Int.bmod_eq_of_le (by omega) (by omega)]
  omega
theorem arC_3 {x y : Int32} (h : arC x y = true) (h3 : ¬ y ≤ 0) : ¬ x < 0 := fun q => by
  rw [arC_0 (arC_1 h) (arC_2 h) h3, if_pos q] at h
  exact absurd h (by decide)
theorem arC_4 {x y : Int32} (h : arC x y = true) (h3 : ¬ y ≤ 0) : x ≤ 65536 - y := by
  have h4 := arC_3 h h3
  refine (arC_l (arC_1 h) (arC_2 h) h3 h4).mpr fun q => ?_
  rw [arC_0 (arC_1 h) (arC_2 h) h3, if_neg h4, if_pos q] at h
  exact absurd h (by decide)
theorem arC_z {x y : Int32} (h1 : ¬ y < 0) (h2 : y ≤ 256) (h3 : y ≤ 0) : arC x y = true := by
  unfold arC
  rw [if_neg h1, if_neg (Int32.not_lt.mpr h2), if_pos (Int32.le_antisymm h3 (Int32.not_lt.mp h1))]
theorem arC_t {x y : Int32} (h1 : ¬ y < 0) (h2 : y ≤ 256) (h3 : ¬ y ≤ 0) (h4 : ¬ x < 0) (h5 : x ≤ 65536 - y) : arC x y = true := by
  rw [arC_0 h1 h2 h3, if_neg h4, if_neg ((arC_l h1 h2 h3 h4).mp h5)]
theorem ex_step (e : Nat) : exB e = if hvI e < 0 then false else true := rfl
set_option maxRecDepth 20000 in
theorem c_fineOfCount (l : Launch) (c : Nat) (hc : c ≤ 65535) (b : Bool) : Pm l yX7_fineOfCount cX7_fineOfCount 2 (some FieldType.int) 4 [.int (nI c), .int (nI (kd1 b))] (some (.int (nI (fN (eig (mk c b false)))))) := by
  refine Pm.of (by decide) (Nat.le_of_ble_eq_true rfl) ?_
  intro zp ze s zm args below zmeth zc hx hb hr hml hown hts hlocks ls hl
  have hl : lv_has ls 2 [(0, .int (nI c)), (1, .int (nI (kd1 b)))] := hl
  refine lv_iload_n hx hb dX7_fineOfCount_0 rfl (lv_at hl 0 rfl) ?_
  refine lv_iload_n hx hb dX7_fineOfCount_1 rfl (lv_at hl 1 rfl) ?_
  refine zp_call hx hb hml hown hts k_X7_48 (c_X5_told l (nI c) (nI (kd1 b))) ⟨by decide, by decide⟩ rfl hl.1 [] rfl (Nat.le_of_ble_eq_true rfl) dX7_fineOfCount_2 ⟨by decide, by decide⟩ ?_
  refine zf_i (x' := nI (mk c b false)) ((mv_told _ _).trans (by rw [kd1_mk])) ?_
  refine zp_call hx hb hml hown hts k_X7_163 (c_ofVolume l (mk c b false) (mk_lt (by omega) _ _)) ⟨by decide, by decide⟩ rfl hl.1 [] rfl (Nat.le_of_ble_eq_true rfl) dX7_fineOfCount_5 ⟨Nat.le_of_ble_eq_true rfl, Nat.le_of_ble_eq_true rfl⟩ ?_
  refine zp_call hx hb hml hown hts k_X7_56 (c_X2_fineOf l (edge (mk c b false))) ⟨by decide, by decide⟩ rfl hl.1 [] rfl (Nat.le_of_ble_eq_true rfl) dX7_fineOfCount_8 ⟨by decide, by decide⟩ ?_
  refine zf_i (x' := nI (fN (eig (mk c b false)))) ((ed_fine (mk_lt (by omega) _ _)).trans (fI_above (mk_b _ _ _))) ?_
  exact zp_iret hx hb hr hlocks dX7_fineOfCount_11 (rfl)
set_option maxRecDepth 20000 in
theorem c_X7_find_ok (l : Launch) (D : va_G) (T : Nat → ClassId) (x vs es o t : Nat) (x0 : Int32) (b : Bool) (C : Nat) (hF : fits0 x0 b C) : Hm l yX7_find cX7_find 6 (some FieldType.int) 5 0 0 D T [.ref x, .int x0, .int (bI b)] [(x, .inr (3, [.ref vs, .ref es, .ref o, .ref t]))] (some (.int (nI C))) (fun _ : Unit => [(x, .inr (3, [.ref vs, .ref es, .ref o, .ref t]))]) := by
  refine Hm.of (by decide) (Nat.le_of_ble_eq_true rfl) ?_
  intro zp ze s zm args below zmeth zc hx hb hr hml hown hin hts hlocks A hA hP hK hD hS ls hl
  have hl : lv_has ls 6 [(0, .ref x), (1, .int x0), (2, .int (bI b))] := hl
  refine lv_iload_n hx hb dX7_find_0 rfl (lv_at hl 2 rfl) ?_
  refine zb_eq (tgt := 8) hx hb dX7_find_1 (by decide) (fun h1 => ?_) (fun h1 => ?_)
  · refine lv_iconst (v := 0) hx hb dX7_find_8 (by decide) ?_
    refine zf_i (x' := nI (kd1 b)) (show _ = nI (if b = true then 1 else 0) by rw [h1]; rfl) ?_
    refine lv_istore_n (lv' := [(3, .int (nI (kd1 b))), (0, .ref x), (1, .int x0), (2, .int (bI b))]) hx hb dX7_find_9 rfl hl (by decide) rfl (fun ls hl => ?_)
    refine lv_ldc hx hb hown (hts _ u619) dX7_find_10 ?_
    refine zf_i (x' := nI 65535) (rfl) ?_
    refine lv_iload_n hx hb dX7_find_12 rfl (lv_at hl 0 rfl) ?_
    refine zp_call hx hb hml hown hts k_X7_154 (c_fineOfCount l 65535 (by omega) b) ⟨by decide, by decide⟩ rfl hl.1 [] rfl (Nat.le_of_ble_eq_true rfl) dX7_find_13 ⟨Nat.le_of_ble_eq_true rfl, Nat.le_of_ble_eq_true rfl⟩ ?_
    refine lv_iload_n hx hb dX7_find_16 rfl (lv_at hl 2 rfl) ?_
    refine lv_icmp_ge (tgt := 30) hx hb dX7_find_17 (by decide) (fun h2 => ?_) (fun h2 => ?_)
    · refine lv_iconst (v := (-1)) hx hb dX7_find_30 (by decide) ?_
      refine zf_i (x' := nI 0 - 1) (by decide) ?_
      refine lv_istore (lv' := [(4, .int (nI 0 - 1)), (3, .int (nI (kd1 b))), (0, .ref x), (1, .int x0), (2, .int (bI b))]) hx hb dX7_find_31 hl (by decide) rfl (fun ls hl => ?_)
      refine lv_ldc hx hb hown (hts _ u624) dX7_find_33 ?_
      refine zf_i (x' := nI (2 ^ 16 / 2)) (by decide) ?_
      refine lv_istore (lv' := [(5, .int (nI (2 ^ 16 / 2))), (4, .int (nI 0 - 1)), (3, .int (nI (kd1 b))), (0, .ref x), (1, .int x0), (2, .int (bI b))]) hx hb dX7_find_35 hl (by decide) rfl (fun ls hl => ?_)
      have lp : ∀ (n : Nat) (t0 : Nat), t0 + 2 ^ n ≤ 65536 → t0 ≤ C → C < t0 + 2 ^ n → ∀ (H : Heap) (locs : List Loc), va_P D zcl [(x, .inr (3, [.ref vs, .ref es, .ref o, .ref t]))] H → va_D A [(x, .inr (3, [.ref vs, .ref es, .ref o, .ref t]))] → va_S A s.heap H locs → ∀ ls : Array Slot, lv_has ls 6 [(5, .int (nI (2 ^ n / 2))), (4, .int (nI t0 - 1)), (3, .int (nI (kd1 b))), (1, .int x0)] → W zp l ze (zR 5 0 0) s zm args below zmeth zc H locs 0 0 (MQ below (zQh D A (some (.int (nI C))) (fun _ : Unit => [(x, .inr (3, [.ref vs, .ref es, .ref o, .ref t]))])) args s 0 0 A) (F0 zm 37 ls []) := by
        intro n
        induction n with
        | zero =>
          intro t0 hf h1 h2 H locs hP hD hS ls hl
          have hCt : C = t0 := by omega
          refine lv_iload hx hb dX7_find_37 (lv_at hl 0 rfl) ?_
          refine lv_if_le (tgt := 71) hx hb dX7_find_39 (by decide) (fun h3 => ?_) (fun h3 => ?_)
          · refine lv_iload hx hb dX7_find_71 (lv_at hl 1 rfl) ?_
            refine lv_iconst (v := 1) hx hb dX7_find_73 (by decide) ?_
            refine lv_iadd hx hb dX7_find_74 ?_
            refine zf_i (x' := nI t0) (nI_m1 t0) ?_
            exact zh_iret () hx hb hr hlocks dX7_find_75 hP hD hS (by rw [hCt]) (rfl)
          · exact absurd (show nI (2 ^ 0 / 2) ≤ 0 by decide) h3
        | succ n ih =>
          intro t0 hf h1 h2 H locs hP hD hS ls hl
          have hw := pow_le16 hf
          have hp0 : 0 < 2 ^ n := Nat.pow_pos (by decide)
          have hs : nI (2 ^ (n + 1) / 2) = nI (2 ^ n) := by rw [half_pow n]
          have h0 : ¬ nI (2 ^ n) ≤ 0 := nI_nle hp0 (by omega)
          rw [hs] at hl
          have h3 : 2 ^ (n + 1) = 2 ^ n * 2 := Nat.pow_succ 2 n
          refine lv_iload hx hb dX7_find_37 (lv_at hl 0 rfl) ?_
          refine lv_if_le (tgt := 71) hx hb dX7_find_39 (by decide) (fun h4 => ?_) (fun h4 => ?_)
          · exact absurd h4 h0
          · refine lv_iload hx hb dX7_find_42 (lv_at hl 1 rfl) ?_
            refine lv_iload hx hb dX7_find_44 (lv_at hl 0 rfl) ?_
            refine lv_iadd hx hb dX7_find_46 ?_
            refine zf_i (x' := nI (t0 + 2 ^ n - 1)) (nI_pm hp0) ?_
            refine lv_iload_n hx hb dX7_find_47 rfl (lv_at hl 2 rfl) ?_
            refine zp_call hx hb hml hown hts k_X7_154 (c_fineOfCount l (t0 + 2 ^ n - 1) (by omega) b) ⟨by decide, by decide⟩ rfl hl.1 [] rfl (Nat.le_of_ble_eq_true rfl) dX7_find_48 ⟨Nat.le_of_ble_eq_true rfl, Nat.le_of_ble_eq_true rfl⟩ ?_
            refine lv_iload_n hx hb dX7_find_51 rfl (lv_at hl 3 rfl) ?_
            refine lv_icmp_ge (tgt := 62) hx hb dX7_find_52 (by decide) (fun h5 => ?_) (fun h5 => ?_)
            · refine lv_iload hx hb dX7_find_62 (lv_at hl 0 rfl) ?_
              refine lv_iconst (v := 2) hx hb dX7_find_64 (by decide) ?_
              refine lv_idiv hx hb dX7_find_65 (by decide) ?_
              refine zf_i (x' := nI (2 ^ n / 2)) (pk_div (by omega) (by decide) (by decide)) ?_
              refine lv_istore (lv' := [(5, .int (nI (2 ^ n / 2))), (4, .int (nI t0 - 1)), (3, .int (nI (kd1 b))), (1, .int x0)]) hx hb dX7_find_66 hl (by decide) rfl (fun ls hl => ?_)
              refine lv_goto (tgt := 37) hx hb dX7_find_68 (by decide) ?_
              exact ih t0 (by omega) (by omega) (by have h9 : C ≤ t0 + 2 ^ n - 1 := (hF.2 _ (by omega)).mp h5; omega) _ _ hP hD hS ls (lv_sub hl [0, 1, 2, 3] rfl)
            · refine lv_iload hx hb dX7_find_55 (lv_at hl 1 rfl) ?_
              refine lv_iload hx hb dX7_find_57 (lv_at hl 0 rfl) ?_
              refine lv_iadd hx hb dX7_find_59 ?_
              refine zf_i (x' := nI (t0 + 2 ^ n) - 1) (nI_pm' hp0) ?_
              refine lv_istore (lv' := [(4, .int (nI (t0 + 2 ^ n) - 1)), (5, .int (nI (2 ^ n))), (3, .int (nI (kd1 b))), (1, .int x0)]) hx hb dX7_find_60 hl (by decide) rfl (fun ls hl => ?_)
              refine lv_iload hx hb dX7_find_62 (lv_at hl 1 rfl) ?_
              refine lv_iconst (v := 2) hx hb dX7_find_64 (by decide) ?_
              refine lv_idiv hx hb dX7_find_65 (by decide) ?_
              refine zf_i (x' := nI (2 ^ n / 2)) (pk_div (by omega) (by decide) (by decide)) ?_
              refine lv_istore (lv' := [(5, .int (nI (2 ^ n / 2))), (4, .int (nI (t0 + 2 ^ n) - 1)), (3, .int (nI (kd1 b))), (1, .int x0)]) hx hb dX7_find_66 hl (by decide) rfl (fun ls hl => ?_)
              refine lv_goto (tgt := 37) hx hb dX7_find_68 (by decide) ?_
              exact ih (t0 + 2 ^ n) (by omega) (by have h9 : ¬ C ≤ t0 + 2 ^ n - 1 := fun q => h5 ((hF.2 _ (by omega)).mpr q); omega) (by omega) _ _ hP hD hS ls (lv_sub hl [0, 1, 2, 3] rfl)
      exact lp 16 0 (by decide) (Nat.zero_le _) (by have := hF.1; omega) _ _ hP hD hS ls (lv_sub hl [0, 1, 2, 4] rfl)
    · exact absurd ((hF.2 65535 (by decide)).mpr hF.1) h2
  · refine lv_iconst (v := 1) hx hb dX7_find_4 (by decide) ?_
    refine zf_i (x' := nI (kd1 b)) (show _ = nI (if b = true then 1 else 0) by rw [h1]; rfl) ?_
    refine lv_goto (tgt := 9) hx hb dX7_find_5 (by decide) ?_
    refine lv_istore_n (lv' := [(3, .int (nI (kd1 b))), (0, .ref x), (1, .int x0), (2, .int (bI b))]) hx hb dX7_find_9 rfl hl (by decide) rfl (fun ls hl => ?_)
    refine lv_ldc hx hb hown (hts _ u619) dX7_find_10 ?_
    refine zf_i (x' := nI 65535) (rfl) ?_
    refine lv_iload_n hx hb dX7_find_12 rfl (lv_at hl 0 rfl) ?_
    refine zp_call hx hb hml hown hts k_X7_154 (c_fineOfCount l 65535 (by omega) b) ⟨by decide, by decide⟩ rfl hl.1 [] rfl (Nat.le_of_ble_eq_true rfl) dX7_find_13 ⟨Nat.le_of_ble_eq_true rfl, Nat.le_of_ble_eq_true rfl⟩ ?_
    refine lv_iload_n hx hb dX7_find_16 rfl (lv_at hl 2 rfl) ?_
    refine lv_icmp_ge (tgt := 30) hx hb dX7_find_17 (by decide) (fun h6 => ?_) (fun h6 => ?_)
    · refine lv_iconst (v := (-1)) hx hb dX7_find_30 (by decide) ?_
      refine zf_i (x' := nI 0 - 1) (by decide) ?_
      refine lv_istore (lv' := [(4, .int (nI 0 - 1)), (3, .int (nI (kd1 b))), (0, .ref x), (1, .int x0), (2, .int (bI b))]) hx hb dX7_find_31 hl (by decide) rfl (fun ls hl => ?_)
      refine lv_ldc hx hb hown (hts _ u624) dX7_find_33 ?_
      refine zf_i (x' := nI (2 ^ 16 / 2)) (by decide) ?_
      refine lv_istore (lv' := [(5, .int (nI (2 ^ 16 / 2))), (4, .int (nI 0 - 1)), (3, .int (nI (kd1 b))), (0, .ref x), (1, .int x0), (2, .int (bI b))]) hx hb dX7_find_35 hl (by decide) rfl (fun ls hl => ?_)
      have lp : ∀ (n : Nat) (t0 : Nat), t0 + 2 ^ n ≤ 65536 → t0 ≤ C → C < t0 + 2 ^ n → ∀ (H : Heap) (locs : List Loc), va_P D zcl [(x, .inr (3, [.ref vs, .ref es, .ref o, .ref t]))] H → va_D A [(x, .inr (3, [.ref vs, .ref es, .ref o, .ref t]))] → va_S A s.heap H locs → ∀ ls : Array Slot, lv_has ls 6 [(5, .int (nI (2 ^ n / 2))), (4, .int (nI t0 - 1)), (3, .int (nI (kd1 b))), (1, .int x0)] → W zp l ze (zR 5 0 0) s zm args below zmeth zc H locs 0 0 (MQ below (zQh D A (some (.int (nI C))) (fun _ : Unit => [(x, .inr (3, [.ref vs, .ref es, .ref o, .ref t]))])) args s 0 0 A) (F0 zm 37 ls []) := by
        intro n
        induction n with
        | zero =>
          intro t0 hf h1 h2 H locs hP hD hS ls hl
          have hCt : C = t0 := by omega
          refine lv_iload hx hb dX7_find_37 (lv_at hl 0 rfl) ?_
          refine lv_if_le (tgt := 71) hx hb dX7_find_39 (by decide) (fun h7 => ?_) (fun h7 => ?_)
          · refine lv_iload hx hb dX7_find_71 (lv_at hl 1 rfl) ?_
            refine lv_iconst (v := 1) hx hb dX7_find_73 (by decide) ?_
            refine lv_iadd hx hb dX7_find_74 ?_
            refine zf_i (x' := nI t0) (nI_m1 t0) ?_
            exact zh_iret () hx hb hr hlocks dX7_find_75 hP hD hS (by rw [hCt]) (rfl)
          · exact absurd (show nI (2 ^ 0 / 2) ≤ 0 by decide) h7
        | succ n ih =>
          intro t0 hf h1 h2 H locs hP hD hS ls hl
          have hw := pow_le16 hf
          have hp0 : 0 < 2 ^ n := Nat.pow_pos (by decide)
          have hs : nI (2 ^ (n + 1) / 2) = nI (2 ^ n) := by rw [half_pow n]
          have h0 : ¬ nI (2 ^ n) ≤ 0 := nI_nle hp0 (by omega)
          rw [hs] at hl
          have h3 : 2 ^ (n + 1) = 2 ^ n * 2 := Nat.pow_succ 2 n
          refine lv_iload hx hb dX7_find_37 (lv_at hl 0 rfl) ?_
          refine lv_if_le (tgt := 71) hx hb dX7_find_39 (by decide) (fun h8 => ?_) (fun h8 => ?_)
          · exact absurd h8 h0
          · refine lv_iload hx hb dX7_find_42 (lv_at hl 1 rfl) ?_
            refine lv_iload hx hb dX7_find_44 (lv_at hl 0 rfl) ?_
            refine lv_iadd hx hb dX7_find_46 ?_
            refine zf_i (x' := nI (t0 + 2 ^ n - 1)) (nI_pm hp0) ?_
            refine lv_iload_n hx hb dX7_find_47 rfl (lv_at hl 2 rfl) ?_
            refine zp_call hx hb hml hown hts k_X7_154 (c_fineOfCount l (t0 + 2 ^ n - 1) (by omega) b) ⟨by decide, by decide⟩ rfl hl.1 [] rfl (Nat.le_of_ble_eq_true rfl) dX7_find_48 ⟨Nat.le_of_ble_eq_true rfl, Nat.le_of_ble_eq_true rfl⟩ ?_
            refine lv_iload_n hx hb dX7_find_51 rfl (lv_at hl 3 rfl) ?_
            refine lv_icmp_ge (tgt := 62) hx hb dX7_find_52 (by decide) (fun h9 => ?_) (fun h9 => ?_)
            · refine lv_iload hx hb dX7_find_62 (lv_at hl 0 rfl) ?_
              refine lv_iconst (v := 2) hx hb dX7_find_64 (by decide) ?_
              refine lv_idiv hx hb dX7_find_65 (by decide) ?_
              refine zf_i (x' := nI (2 ^ n / 2)) (pk_div (by omega) (by decide) (by decide)) ?_
              refine lv_istore (lv' := [(5, .int (nI (2 ^ n / 2))), (4, .int (nI t0 - 1)), (3, .int (nI (kd1 b))), (1, .int x0)]) hx hb dX7_find_66 hl (by decide) rfl (fun ls hl => ?_)
              refine lv_goto (tgt := 37) hx hb dX7_find_68 (by decide) ?_
              exact ih t0 (by omega) (by omega) (by have h9 : C ≤ t0 + 2 ^ n - 1 := (hF.2 _ (by omega)).mp h9; omega) _ _ hP hD hS ls (lv_sub hl [0, 1, 2, 3] rfl)
            · refine lv_iload hx hb dX7_find_55 (lv_at hl 1 rfl) ?_
              refine lv_iload hx hb dX7_find_57 (lv_at hl 0 rfl) ?_
              refine lv_iadd hx hb dX7_find_59 ?_
              refine zf_i (x' := nI (t0 + 2 ^ n) - 1) (nI_pm' hp0) ?_
              refine lv_istore (lv' := [(4, .int (nI (t0 + 2 ^ n) - 1)), (5, .int (nI (2 ^ n))), (3, .int (nI (kd1 b))), (1, .int x0)]) hx hb dX7_find_60 hl (by decide) rfl (fun ls hl => ?_)
              refine lv_iload hx hb dX7_find_62 (lv_at hl 1 rfl) ?_
              refine lv_iconst (v := 2) hx hb dX7_find_64 (by decide) ?_
              refine lv_idiv hx hb dX7_find_65 (by decide) ?_
              refine zf_i (x' := nI (2 ^ n / 2)) (pk_div (by omega) (by decide) (by decide)) ?_
              refine lv_istore (lv' := [(5, .int (nI (2 ^ n / 2))), (4, .int (nI (t0 + 2 ^ n) - 1)), (3, .int (nI (kd1 b))), (1, .int x0)]) hx hb dX7_find_66 hl (by decide) rfl (fun ls hl => ?_)
              refine lv_goto (tgt := 37) hx hb dX7_find_68 (by decide) ?_
              exact ih (t0 + 2 ^ n) (by omega) (by have h9 : ¬ C ≤ t0 + 2 ^ n - 1 := fun q => h9 ((hF.2 _ (by omega)).mpr q); omega) (by omega) _ _ hP hD hS ls (lv_sub hl [0, 1, 2, 3] rfl)
      exact lp 16 0 (by decide) (Nat.zero_le _) (by have := hF.1; omega) _ _ hP hD hS ls (lv_sub hl [0, 1, 2, 4] rfl)
    · exact absurd ((hF.2 65535 (by decide)).mpr hF.1) h6
set_option maxRecDepth 20000 in
theorem t_X7_find_no (l : Launch) (hlf : l.stackTraces = false) (D : va_G) (T : Nat → ClassId) (x vs es o t : Nat) (x0 : Int32) (b : Bool) (hF : ¬ x0 ≤ nI (fN (eig (mk 65535 b false)))) : Tm l yX7_find cX7_find 6 (some FieldType.int) 7 D T [.ref x, .int x0, .int (bI b)] [(x, .inr (3, [.ref vs, .ref es, .ref o, .ref t]))] "java/lang/ArithmeticException" := by
  refine Tm.of (by decide) (Nat.le_of_ble_eq_true rfl) ?_
  intro zp ze s zm args below zmeth zc hx hb hr hml hown hts hlocks hout A hA hP hK hD hS hZ ls hl
  have hl : lv_has ls 6 [(0, .ref x), (1, .int x0), (2, .int (bI b))] := hl
  refine lv_iload_n hx hb dX7_find_0 rfl (lv_at hl 2 rfl) ?_
  refine zb_eq (tgt := 8) hx hb dX7_find_1 (by decide) (fun h1 => ?_) (fun h1 => ?_)
  · refine lv_iconst (v := 0) hx hb dX7_find_8 (by decide) ?_
    refine zf_i (x' := nI (kd1 b)) (show _ = nI (if b = true then 1 else 0) by rw [h1]; rfl) ?_
    refine lv_istore_n (lv' := [(3, .int (nI (kd1 b))), (0, .ref x), (1, .int x0), (2, .int (bI b))]) hx hb dX7_find_9 rfl hl (by decide) rfl (fun ls hl => ?_)
    refine lv_ldc hx hb hown (hts _ u619) dX7_find_10 ?_
    refine zf_i (x' := nI 65535) (rfl) ?_
    refine lv_iload_n hx hb dX7_find_12 rfl (lv_at hl 0 rfl) ?_
    refine zp_call hx hb hml hown hts k_X7_154 (c_fineOfCount l 65535 (by omega) b) ⟨by decide, by decide⟩ rfl hl.1 [] rfl (Nat.le_of_ble_eq_true rfl) dX7_find_13 ⟨Nat.le_of_ble_eq_true rfl, Nat.le_of_ble_eq_true rfl⟩ ?_
    refine lv_iload_n hx hb dX7_find_16 rfl (lv_at hl 2 rfl) ?_
    refine lv_icmp_ge (tgt := 30) hx hb dX7_find_17 (by decide) (fun h2 => ?_) (fun h2 => ?_)
    · exact absurd h2 hF
    · exact zt_throw hx hb hlf hml hown hts hlocks hout (by decide +kernel) u525 u32 (List.mem_of_getElem? (i := 9) rfl) xg_81 xn_81 xo_81 hP hD hS hZ hl.1 (by decide) (Nat.le_of_ble_eq_true rfl) dX7_find_20 dX7_find_23 dX7_find_24 dX7_find_26 dX7_find_29
  · refine lv_iconst (v := 1) hx hb dX7_find_4 (by decide) ?_
    refine zf_i (x' := nI (kd1 b)) (show _ = nI (if b = true then 1 else 0) by rw [h1]; rfl) ?_
    refine lv_goto (tgt := 9) hx hb dX7_find_5 (by decide) ?_
    refine lv_istore_n (lv' := [(3, .int (nI (kd1 b))), (0, .ref x), (1, .int x0), (2, .int (bI b))]) hx hb dX7_find_9 rfl hl (by decide) rfl (fun ls hl => ?_)
    refine lv_ldc hx hb hown (hts _ u619) dX7_find_10 ?_
    refine zf_i (x' := nI 65535) (rfl) ?_
    refine lv_iload_n hx hb dX7_find_12 rfl (lv_at hl 0 rfl) ?_
    refine zp_call hx hb hml hown hts k_X7_154 (c_fineOfCount l 65535 (by omega) b) ⟨by decide, by decide⟩ rfl hl.1 [] rfl (Nat.le_of_ble_eq_true rfl) dX7_find_13 ⟨Nat.le_of_ble_eq_true rfl, Nat.le_of_ble_eq_true rfl⟩ ?_
    refine lv_iload_n hx hb dX7_find_16 rfl (lv_at hl 2 rfl) ?_
    refine lv_icmp_ge (tgt := 30) hx hb dX7_find_17 (by decide) (fun h3 => ?_) (fun h3 => ?_)
    · exact absurd h3 hF
    · exact zt_throw hx hb hlf hml hown hts hlocks hout (by decide +kernel) u525 u32 (List.mem_of_getElem? (i := 9) rfl) xg_81 xn_81 xo_81 hP hD hS hZ hl.1 (by decide) (Nat.le_of_ble_eq_true rfl) dX7_find_20 dX7_find_23 dX7_find_24 dX7_find_26 dX7_find_29
set_option maxRecDepth 20000 in
theorem c_needCounts (l : Launch) (x y : Int32) (ha : arC x y = true) : Pm l yX7_needCounts cX7_needCounts 2 none 0 [.int x, .int y] none := by
  refine Pm.of (by decide) (Nat.le_of_ble_eq_true rfl) ?_
  intro zp ze s zm args below zmeth zc hx hb hr hml hown hts hlocks ls hl
  have hl : lv_has ls 2 [(0, .int x), (1, .int y)] := hl
  refine lv_iload_n hx hb dX7_needCounts_0 rfl (lv_at hl 1 rfl) ?_
  refine lv_if_lt (tgt := 11) hx hb dX7_needCounts_1 (by decide) (fun h1 => ?_) (fun h1 => ?_)
  · exact absurd h1 (arC_1 ha)
  · refine lv_iload_n hx hb dX7_needCounts_4 rfl (lv_at hl 1 rfl) ?_
    refine lv_sipush (v := 256) hx hb dX7_needCounts_5 (by decide) ?_
    refine lv_icmp_le (tgt := 21) hx hb dX7_needCounts_8 (by decide) (fun h2 => ?_) (fun h2 => ?_)
    · refine lv_iload_n hx hb dX7_needCounts_21 rfl (lv_at hl 1 rfl) ?_
      refine lv_if_le (tgt := 47) hx hb dX7_needCounts_22 (by decide) (fun h3 => ?_) (fun h3 => ?_)
      · exact zp_vret hx hb hr hlocks dX7_needCounts_47
      · refine lv_iload_n hx hb dX7_needCounts_25 rfl (lv_at hl 0 rfl) ?_
        refine lv_if_lt (tgt := 37) hx hb dX7_needCounts_26 (by decide) (fun h4 => ?_) (fun h4 => ?_)
        · exact absurd h4 (arC_3 ha h3)
        · refine lv_iload_n hx hb dX7_needCounts_29 rfl (lv_at hl 0 rfl) ?_
          refine lv_ldc hx hb hown (hts _ u636) dX7_needCounts_30 ?_
          refine lv_iload_n hx hb dX7_needCounts_32 rfl (lv_at hl 1 rfl) ?_
          refine lv_isub hx hb dX7_needCounts_33 ?_
          refine lv_icmp_le (tgt := 47) hx hb dX7_needCounts_34 (by decide) (fun h5 => ?_) (fun h5 => ?_)
          · exact zp_vret hx hb hr hlocks dX7_needCounts_47
          · exact absurd (arC_4 ha h3) h5
    · exact absurd (arC_2 ha) h2
set_option maxRecDepth 20000 in
theorem t_needCounts (l : Launch) (hlf : l.stackTraces = false) (D : va_G) (T : Nat → ClassId) (x y : Int32) (ha : arC x y = false) : Tm l yX7_needCounts cX7_needCounts 2 none 6 D T [.int x, .int y] [] "java/lang/IllegalArgumentException" := by
  refine Tm.of (by decide) (Nat.le_of_ble_eq_true rfl) ?_
  intro zp ze s zm args below zmeth zc hx hb hr hml hown hts hlocks hout A hA hP hK hD hS hZ ls hl
  have hl : lv_has ls 2 [(0, .int x), (1, .int y)] := hl
  refine lv_iload_n hx hb dX7_needCounts_0 rfl (lv_at hl 1 rfl) ?_
  refine lv_if_lt (tgt := 11) hx hb dX7_needCounts_1 (by decide) (fun h1 => ?_) (fun h1 => ?_)
  · exact zt_throw hx hb hlf hml hown hts hlocks hout (by decide +kernel) u437 u28 (List.mem_of_getElem? (i := 10) rfl) xg_45 xn_45 xo_45 hP hD hS hZ hl.1 (by decide) (Nat.le_of_ble_eq_true rfl) dX7_needCounts_11 dX7_needCounts_14 dX7_needCounts_15 dX7_needCounts_17 dX7_needCounts_20
  · refine lv_iload_n hx hb dX7_needCounts_4 rfl (lv_at hl 1 rfl) ?_
    refine lv_sipush (v := 256) hx hb dX7_needCounts_5 (by decide) ?_
    refine lv_icmp_le (tgt := 21) hx hb dX7_needCounts_8 (by decide) (fun h2 => ?_) (fun h2 => ?_)
    · refine lv_iload_n hx hb dX7_needCounts_21 rfl (lv_at hl 1 rfl) ?_
      refine lv_if_le (tgt := 47) hx hb dX7_needCounts_22 (by decide) (fun h3 => ?_) (fun h3 => ?_)
      · exact absurd (arC_z h1 h2 h3) (by rw [ha]; decide)
      · refine lv_iload_n hx hb dX7_needCounts_25 rfl (lv_at hl 0 rfl) ?_
        refine lv_if_lt (tgt := 37) hx hb dX7_needCounts_26 (by decide) (fun h4 => ?_) (fun h4 => ?_)
        · exact zt_throw hx hb hlf hml hown hts hlocks hout (by decide +kernel) u437 u28 (List.mem_of_getElem? (i := 1) rfl) xg_45 xn_45 xo_45 hP hD hS hZ hl.1 (by decide) (Nat.le_of_ble_eq_true rfl) dX7_needCounts_37 dX7_needCounts_40 dX7_needCounts_41 dX7_needCounts_43 dX7_needCounts_46
        · refine lv_iload_n hx hb dX7_needCounts_29 rfl (lv_at hl 0 rfl) ?_
          refine lv_ldc hx hb hown (hts _ u636) dX7_needCounts_30 ?_
          refine lv_iload_n hx hb dX7_needCounts_32 rfl (lv_at hl 1 rfl) ?_
          refine lv_isub hx hb dX7_needCounts_33 ?_
          refine lv_icmp_le (tgt := 47) hx hb dX7_needCounts_34 (by decide) (fun h5 => ?_) (fun h5 => ?_)
          · exact absurd (arC_t h1 h2 h3 h4 h5) (by rw [ha]; decide)
          · exact zt_throw hx hb hlf hml hown hts hlocks hout (by decide +kernel) u437 u28 (List.mem_of_getElem? (i := 1) rfl) xg_45 xn_45 xo_45 hP hD hS hZ hl.1 (by decide) (Nat.le_of_ble_eq_true rfl) dX7_needCounts_37 dX7_needCounts_40 dX7_needCounts_41 dX7_needCounts_43 dX7_needCounts_46
    · exact zt_throw hx hb hlf hml hown hts hlocks hout (by decide +kernel) u437 u28 (List.mem_of_getElem? (i := 10) rfl) xg_45 xn_45 xo_45 hP hD hS hZ hl.1 (by decide) (Nat.le_of_ble_eq_true rfl) dX7_needCounts_11 dX7_needCounts_14 dX7_needCounts_15 dX7_needCounts_17 dX7_needCounts_20
set_option maxRecDepth 20000 in
theorem c_X7_sum_ok (l : Launch) (D : va_G) (T : Nat → ClassId) (x vs es o t : Nat) (k0 : Nat) (hk : k0 ≤ 256) (x0 : Int32) (f : Nat) (hxx : 0 < k0 → x0 = nI f ∧ f + k0 ≤ 65536) : Hm l yX7_sum cX7_sum 5 (some FieldType.int) 5 0 0 D T [.ref x, .int x0, .int (nI k0)] [(x, .inr (3, [.ref vs, .ref es, .ref o, .ref t]))] (some (.int (nI (smN f k0)))) (fun _ : Unit => [(x, .inr (3, [.ref vs, .ref es, .ref o, .ref t]))]) := by
  refine Hm.of (by decide) (Nat.le_of_ble_eq_true rfl) ?_
  intro zp ze s zm args below zmeth zc hx hb hr hml hown hin hts hlocks A hA hP hK hD hS ls hl
  have hl : lv_has ls 5 [(0, .ref x), (1, .int x0), (2, .int (nI k0))] := hl
  refine lv_iload_n hx hb dX7_sum_0 rfl (lv_at hl 1 rfl) ?_
  refine lv_iload_n hx hb dX7_sum_1 rfl (lv_at hl 2 rfl) ?_
  refine zp_callv hx hb hml hown hts k_X7_160 (c_needCounts l x0 (nI k0) (arC_ok hk hxx)) ⟨by decide, by decide⟩ rfl hl.1 [] rfl (Nat.le_of_ble_eq_true rfl) dX7_sum_2 ⟨Nat.le_of_ble_eq_true rfl, Nat.le_of_ble_eq_true rfl⟩ ?_
  refine lv_iconst (v := 0) hx hb dX7_sum_5 (by decide) ?_
  refine zf_i (x' := nI (smN f 0)) (rfl) ?_
  refine lv_istore_n (lv' := [(3, .int (nI (smN f 0))), (0, .ref x), (1, .int x0), (2, .int (nI k0))]) hx hb dX7_sum_6 rfl hl (by decide) rfl (fun ls hl => ?_)
  refine lv_iconst (v := 0) hx hb dX7_sum_7 (by decide) ?_
  refine zf_i (x' := nI 0) (rfl) ?_
  refine lv_istore (lv' := [(4, .int (nI 0)), (3, .int (nI (smN f 0))), (0, .ref x), (1, .int x0), (2, .int (nI k0))]) hx hb dX7_sum_8 hl (by decide) rfl (fun ls hl => ?_)
  have lp : ∀ (n : Nat) (i : Nat), i + n = k0 → ∀ (H : Heap) (locs : List Loc), va_P D zcl [(x, .inr (3, [.ref vs, .ref es, .ref o, .ref t]))] H → va_D A [(x, .inr (3, [.ref vs, .ref es, .ref o, .ref t]))] → va_S A s.heap H locs → ∀ ls : Array Slot, lv_has ls 5 [(1, .int x0), (2, .int (nI k0)), (3, .int (nI (smN f i))), (4, .int (nI i))] → W zp l ze (zR 5 0 0) s zm args below zmeth zc H locs 0 0 (MQ below (zQh D A (some (.int (nI (smN f k0)))) (fun _ : Unit => [(x, .inr (3, [.ref vs, .ref es, .ref o, .ref t]))])) args s 0 0 A) (F0 zm 10 ls []) := by
    intro n
    induction n with
    | zero =>
      intro i hi H locs hP hD hS ls hl
      have hik : i = k0 := by omega
      refine lv_iload hx hb dX7_sum_10 (lv_at hl 3 rfl) ?_
      refine lv_iload_n hx hb dX7_sum_12 rfl (lv_at hl 1 rfl) ?_
      refine lv_icmp_ge (tgt := 33) hx hb dX7_sum_13 (by decide) (fun h1 => ?_) (fun h1 => ?_)
      · refine lv_iload_n hx hb dX7_sum_33 rfl (lv_at hl 2 rfl) ?_
        exact zh_iret () hx hb hr hlocks dX7_sum_34 hP hD hS (by rw [hik]) (rfl)
      · exact absurd (nI_le (by omega) (by omega)) h1
    | succ n ih =>
      intro i hi H locs hP hD hS ls hl
      obtain ⟨hxe, hfk⟩ := hxx (by omega)
      refine lv_iload hx hb dX7_sum_10 (lv_at hl 3 rfl) ?_
      refine lv_iload_n hx hb dX7_sum_12 rfl (lv_at hl 1 rfl) ?_
      refine lv_icmp_ge (tgt := 33) hx hb dX7_sum_13 (by decide) (fun h2 => ?_) (fun h2 => ?_)
      · exact absurd h2 (nI_ge (by omega) (by omega))
      · refine lv_iload_n hx hb dX7_sum_16 rfl (lv_at hl 2 rfl) ?_
        refine lv_iload_n hx hb dX7_sum_17 rfl (lv_at hl 0 rfl) ?_
        refine lv_iload hx hb dX7_sum_18 (lv_at hl 3 rfl) ?_
        refine lv_iadd hx hb dX7_sum_20 ?_
        refine zf_i (x' := nI (f + i)) (by rw [hxe]; exact nI_add f i) ?_
        refine lv_iconst (v := 0) hx hb dX7_sum_21 (by decide) ?_
        refine zf_i (x' := nI (kd1 false)) (rfl) ?_
        refine zp_call hx hb hml hown hts k_X7_154 (c_fineOfCount l (f + i) (by omega) false) ⟨by decide, by decide⟩ rfl hl.1 [.int (nI (smN f i))] rfl (Nat.le_of_ble_eq_true rfl) dX7_sum_22 ⟨Nat.le_of_ble_eq_true rfl, Nat.le_of_ble_eq_true rfl⟩ ?_
        refine zf_i (x' := nI (fN (8 * (f + i)))) (by rw [eig_mk]; rfl) ?_
        refine lv_iadd hx hb dX7_sum_25 ?_
        refine zf_i (x' := nI (smN f (i + 1))) (nI_add _ _) ?_
        refine lv_istore_n (lv' := [(3, .int (nI (smN f (i + 1)))), (1, .int x0), (2, .int (nI k0)), (4, .int (nI i))]) hx hb dX7_sum_26 rfl hl (by decide) rfl (fun ls hl => ?_)
        refine lv_iinc (v := (nI (i + 1))) (lv' := [(4, .int (nI (i + 1))), (3, .int (nI (smN f (i + 1)))), (1, .int x0), (2, .int (nI k0))]) hx hb dX7_sum_27 hl (k := 3) rfl (nI_1 i) (by decide) rfl (fun ls hl => ?_)
        refine lv_goto (tgt := 10) hx hb dX7_sum_30 (by decide) ?_
        exact ih (i + 1) (by omega) _ _ hP hD hS ls (lv_sub hl [2, 3, 1, 0] rfl)
  exact lp k0 0 (by omega) _ _ hP hD hS ls (lv_sub hl [3, 4, 1, 0] rfl)
set_option maxRecDepth 20000 in
theorem t_X7_sum_no (l : Launch) (hlf : l.stackTraces = false) (D : va_G) (T : Nat → ClassId) (x vs es o t : Nat) (x0 y : Int32) (ha : arC x0 y = false) : Tm l yX7_sum cX7_sum 5 (some FieldType.int) 7 D T [.ref x, .int x0, .int y] [(x, .inr (3, [.ref vs, .ref es, .ref o, .ref t]))] "java/lang/IllegalArgumentException" := by
  refine Tm.of (by decide) (Nat.le_of_ble_eq_true rfl) ?_
  intro zp ze s zm args below zmeth zc hx hb hr hml hown hts hlocks hout A hA hP hK hD hS hZ ls hl
  have hl : lv_has ls 5 [(0, .ref x), (1, .int x0), (2, .int y)] := hl
  refine lv_iload_n hx hb dX7_sum_0 rfl (lv_at hl 1 rfl) ?_
  refine lv_iload_n hx hb dX7_sum_1 rfl (lv_at hl 2 rfl) ?_
  refine zt_s (T := T) hx hb hml hown hts k_X7_160 (t_needCounts l hlf D T x0 y ha) ⟨by decide, by decide⟩ rfl hl.1 [] rfl (Nat.le_of_ble_eq_true rfl) dX7_sum_2 ⟨Nat.le_of_ble_eq_true rfl, Nat.le_of_ble_eq_true rfl⟩ hK hP hD hS hA hZ [] [0] (wr := [(x, .inr (3, [.ref vs, .ref es, .ref o, .ref t]))]) rfl rfl (by decide) (by decide) (by decide) [0] (by decide) rfl (fun ce q9 H locs hP hD hS hce hcv hcl => ?_)
  exact zt_out hlocks hout hP hD hS hce hcv hcl
set_option maxRecDepth 20000 in
theorem c_X7_exact_ok (l : Launch) (D : va_G) (T : Nat → ClassId) (x vs es o t : Nat) (k0 : Nat) (hk : k0 ≤ 256) (x0 : Int32) (f : Nat) (hxx : 0 < k0 → x0 = nI f ∧ f + k0 ≤ 65536) : Hm l yX7_exact cX7_exact 5 (some FieldType.int) 4 0 0 D T [.ref x, .int x0, .int (nI k0)] [(x, .inr (3, [.ref vs, .ref es, .ref o, .ref t]))] (some (.int (nI (exN f k0)))) (fun _ : Unit => [(x, .inr (3, [.ref vs, .ref es, .ref o, .ref t]))]) := by
  refine Hm.of (by decide) (Nat.le_of_ble_eq_true rfl) ?_
  intro zp ze s zm args below zmeth zc hx hb hr hml hown hin hts hlocks A hA hP hK hD hS ls hl
  have hl : lv_has ls 5 [(0, .ref x), (1, .int x0), (2, .int (nI k0))] := hl
  refine lv_iload_n hx hb dX7_exact_0 rfl (lv_at hl 1 rfl) ?_
  refine lv_iload_n hx hb dX7_exact_1 rfl (lv_at hl 2 rfl) ?_
  refine zp_callv hx hb hml hown hts k_X7_160 (c_needCounts l x0 (nI k0) (arC_ok hk hxx)) ⟨by decide, by decide⟩ rfl hl.1 [] rfl (Nat.le_of_ble_eq_true rfl) dX7_exact_2 ⟨Nat.le_of_ble_eq_true rfl, Nat.le_of_ble_eq_true rfl⟩ ?_
  refine lv_iconst (v := 0) hx hb dX7_exact_5 (by decide) ?_
  refine zf_i (x' := nI (exN f 0)) (rfl) ?_
  refine lv_istore_n (lv' := [(3, .int (nI (exN f 0))), (0, .ref x), (1, .int x0), (2, .int (nI k0))]) hx hb dX7_exact_6 rfl hl (by decide) rfl (fun ls hl => ?_)
  refine lv_iconst (v := 0) hx hb dX7_exact_7 (by decide) ?_
  refine zf_i (x' := nI 0) (rfl) ?_
  refine lv_istore (lv' := [(4, .int (nI 0)), (3, .int (nI (exN f 0))), (0, .ref x), (1, .int x0), (2, .int (nI k0))]) hx hb dX7_exact_8 hl (by decide) rfl (fun ls hl => ?_)
  have lp : ∀ (n : Nat) (i : Nat), i + n = k0 → ∀ (H : Heap) (locs : List Loc), va_P D zcl [(x, .inr (3, [.ref vs, .ref es, .ref o, .ref t]))] H → va_D A [(x, .inr (3, [.ref vs, .ref es, .ref o, .ref t]))] → va_S A s.heap H locs → ∀ ls : Array Slot, lv_has ls 5 [(1, .int x0), (2, .int (nI k0)), (3, .int (nI (exN f i))), (4, .int (nI i))] → W zp l ze (zR 4 0 0) s zm args below zmeth zc H locs 0 0 (MQ below (zQh D A (some (.int (nI (exN f k0)))) (fun _ : Unit => [(x, .inr (3, [.ref vs, .ref es, .ref o, .ref t]))])) args s 0 0 A) (F0 zm 10 ls []) := by
    intro n
    induction n with
    | zero =>
      intro i hi H locs hP hD hS ls hl
      have hik : i = k0 := by omega
      refine lv_iload hx hb dX7_exact_10 (lv_at hl 3 rfl) ?_
      refine lv_iload_n hx hb dX7_exact_12 rfl (lv_at hl 1 rfl) ?_
      refine lv_icmp_ge (tgt := 42) hx hb dX7_exact_13 (by decide) (fun h1 => ?_) (fun h1 => ?_)
      · refine lv_iload_n hx hb dX7_exact_42 rfl (lv_at hl 2 rfl) ?_
        exact zh_iret () hx hb hr hlocks dX7_exact_43 hP hD hS (by rw [hik]) (rfl)
      · exact absurd (nI_le (by omega) (by omega)) h1
    | succ n ih =>
      intro i hi H locs hP hD hS ls hl
      obtain ⟨hxe, hfk⟩ := hxx (by omega)
      refine lv_iload hx hb dX7_exact_10 (lv_at hl 3 rfl) ?_
      refine lv_iload_n hx hb dX7_exact_12 rfl (lv_at hl 1 rfl) ?_
      refine lv_icmp_ge (tgt := 42) hx hb dX7_exact_13 (by decide) (fun h2 => ?_) (fun h2 => ?_)
      · exact absurd h2 (nI_ge (by omega) (by omega))
      · refine lv_iload_n hx hb dX7_exact_16 rfl (lv_at hl 0 rfl) ?_
        refine lv_iload hx hb dX7_exact_17 (lv_at hl 3 rfl) ?_
        refine lv_iadd hx hb dX7_exact_19 ?_
        refine zf_i (x' := nI (f + i)) (by rw [hxe]; exact nI_add f i) ?_
        refine lv_iconst (v := 1) hx hb dX7_exact_20 (by decide) ?_
        refine zf_i (x' := nI (kd1 true)) (rfl) ?_
        refine zp_call hx hb hml hown hts k_X7_48 (c_X5_told l (nI (f + i)) (nI (kd1 true))) ⟨by decide, by decide⟩ rfl hl.1 [] rfl (Nat.le_of_ble_eq_true rfl) dX7_exact_21 ⟨by decide, by decide⟩ ?_
        refine zf_i (x' := nI (mk (f + i) true false)) ((mv_told _ _).trans (by rw [kd1_mk])) ?_
        refine zp_call hx hb hml hown hts k_X7_163 (c_ofVolume l (mk (f + i) true false) (mk_lt (by omega) _ _)) ⟨by decide, by decide⟩ rfl hl.1 [] rfl (Nat.le_of_ble_eq_true rfl) dX7_exact_24 ⟨Nat.le_of_ble_eq_true rfl, Nat.le_of_ble_eq_true rfl⟩ ?_
        refine zp_call hx hb hml hown hts k_X7_74 (c_X2_isHalves l (edge (mk (f + i) true false))) ⟨by decide, by decide⟩ rfl hl.1 [] rfl (Nat.le_of_ble_eq_true rfl) dX7_exact_27 ⟨by decide, by decide⟩ ?_
        refine zf_z (x' := exB (f + i)) (congrArg bI ((ed_half (mk_lt (by omega) _ _)).trans (by rw [eig_mk]; rfl))) ?_
        refine zb_eq (tgt := 36) hx hb dX7_exact_30 (by decide) (fun h3 => ?_) (fun h3 => ?_)
        · have hex : exN f (i + 1) = exN f i := by rw [exN, if_pos (Classical.byContradiction fun q => absurd h3 (by rw [ex_step, if_neg q]; decide))]; rfl
          rw [← hex] at hl
          refine lv_iinc (v := (nI (i + 1))) (lv' := [(4, .int (nI (i + 1))), (1, .int x0), (2, .int (nI k0)), (3, .int (nI (exN f (i + 1))))]) hx hb dX7_exact_36 hl (k := 3) rfl (nI_1 i) (by decide) rfl (fun ls hl => ?_)
          refine lv_goto (tgt := 10) hx hb dX7_exact_39 (by decide) ?_
          exact ih (i + 1) (by omega) _ _ hP hD hS ls (lv_sub hl [1, 2, 3, 0] rfl)
        · refine lv_iinc (v := (nI (exN f (i + 1)))) (lv' := [(3, .int (nI (exN f (i + 1)))), (1, .int x0), (2, .int (nI k0)), (4, .int (nI i))]) hx hb dX7_exact_33 hl (k := 2) rfl ((nI_1 _).trans (by rw [exN, if_neg (fun q => absurd h3 (by rw [ex_step, if_pos q]; decide))])) (by decide) rfl (fun ls hl => ?_)
          refine lv_iinc (v := (nI (i + 1))) (lv' := [(4, .int (nI (i + 1))), (3, .int (nI (exN f (i + 1)))), (1, .int x0), (2, .int (nI k0))]) hx hb dX7_exact_36 hl (k := 3) rfl (nI_1 i) (by decide) rfl (fun ls hl => ?_)
          refine lv_goto (tgt := 10) hx hb dX7_exact_39 (by decide) ?_
          exact ih (i + 1) (by omega) _ _ hP hD hS ls (lv_sub hl [2, 3, 1, 0] rfl)
  exact lp k0 0 (by omega) _ _ hP hD hS ls (lv_sub hl [3, 4, 1, 0] rfl)
set_option maxRecDepth 20000 in
theorem t_X7_exact_no (l : Launch) (hlf : l.stackTraces = false) (D : va_G) (T : Nat → ClassId) (x vs es o t : Nat) (x0 y : Int32) (ha : arC x0 y = false) : Tm l yX7_exact cX7_exact 5 (some FieldType.int) 7 D T [.ref x, .int x0, .int y] [(x, .inr (3, [.ref vs, .ref es, .ref o, .ref t]))] "java/lang/IllegalArgumentException" := by
  refine Tm.of (by decide) (Nat.le_of_ble_eq_true rfl) ?_
  intro zp ze s zm args below zmeth zc hx hb hr hml hown hts hlocks hout A hA hP hK hD hS hZ ls hl
  have hl : lv_has ls 5 [(0, .ref x), (1, .int x0), (2, .int y)] := hl
  refine lv_iload_n hx hb dX7_exact_0 rfl (lv_at hl 1 rfl) ?_
  refine lv_iload_n hx hb dX7_exact_1 rfl (lv_at hl 2 rfl) ?_
  refine zt_s (T := T) hx hb hml hown hts k_X7_160 (t_needCounts l hlf D T x0 y ha) ⟨by decide, by decide⟩ rfl hl.1 [] rfl (Nat.le_of_ble_eq_true rfl) dX7_exact_2 ⟨Nat.le_of_ble_eq_true rfl, Nat.le_of_ble_eq_true rfl⟩ hK hP hD hS hA hZ [] [0] (wr := [(x, .inr (3, [.ref vs, .ref es, .ref o, .ref t]))]) rfl rfl (by decide) (by decide) (by decide) [0] (by decide) rfl (fun ce q9 H locs hP hD hS hce hcv hcl => ?_)
  exact zt_out hlocks hout hP hD hS hce hcv hcl
