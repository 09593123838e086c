/-! WHAT A STATE IS, in numbers: a volume is a number below 2^18 (4 times its count, 1 for eighths, 2 for below); the reference's pure methods. -/
def eig (v : Nat) : Nat := if v % 2 = 1 then v / 4 else 8 * (v / 4)
def isE (v : Nat) : Bool := v % 2 == 1
def isB (v : Nat) : Bool := v / 2 % 2 == 1
def sgI (v : Nat) : Int32 := if isB v = true then -(nI (eig v)) else nI (eig v)
/-- the greatest number of so many binary digits whose cube is at most v -/
def rootF (v : Nat) : Nat → Nat → Nat
  | 0, f => f
  | i + 1, f => rootF v i (if (f + 2 ^ i) * (f + 2 ^ i) * (f + 2 ^ i) ≤ v then f + 2 ^ i else f)
def rt (v : Nat) : Nat := rootF v 16 0
def fN (e : Nat) : Nat := rt (e * 2 ^ 27)
def fI (v : Nat) : Int32 := if isB v = true then -(nI (fN (eig v))) else nI (fN (eig v))
def hvI (e : Nat) : Int32 := if nI (rt e) * nI (rt e) * nI (rt e) = nI e then nI (rt e) else (-1)
theorem bI_fit (b : Bool) : fits .boolean (.int (bI b)) = true := by cases b <;> rfl
theorem eig_lt {v : Nat} (h : v < 262144) : eig v < 524281 := by
  unfold eig
  split <;> omega
theorem zlshl_N (n k : Nat) (hk : k < 64) : zlshl (lN n) (nI k) = lN (n * 2 ^ k) := wb_shl n hk
theorem half_pow (n : Nat) : 2 ^ (n + 1) / 2 = 2 ^ n := by
  rw [Nat.pow_succ]; omega
theorem pow_le16 {n f : Nat} (h : f + 2 ^ (n + 1) ≤ 65536) : f + 2 ^ n < 65536 ∧ 2 ^ n < 65536 := by
  have h1 : 2 ^ (n + 1) = 2 ^ n * 2 := Nat.pow_succ 2 n
  have h2 : 0 < 2 ^ n := Nat.pow_pos (by decide)
  omega
theorem cube_lt {t : Nat} (h : t < 65536) : t * t * t < 2 ^ 48 := by
  have h1 : t * t ≤ 65535 * 65535 := Nat.mul_le_mul (by omega) (by omega)
  have h2 : t * t * t ≤ 65535 * 65535 * 65535 := Nat.mul_le_mul h1 (by omega)
  omega
theorem e8_c {v : Nat} : m_X8_eighthsOf (nI (v / 4)) (isE v) = nI (eig v) := by
  unfold m_X8_eighthsOf eig isE
  by_cases h : v % 2 = 1
  · rw [if_pos (by simp [h]), if_pos h]
  · rw [if_neg (by simp [h]), if_neg h, show (8 : Int32) = nI 8 from rfl, pk_mul]
set_option maxRecDepth 20000 in
/-- the root by whole numbers -/
theorem c_X8_root (l : Launch) (v : Nat) (hv : v < 2 ^ 48) : Pm l yX8_root cX8_root 6 (some FieldType.int) 0 [.long (lN v)] (some (.int (nI (rt v)))) := by
  refine Pm.of (by decide) (Nat.le_of_ble_eq_true rfl) ?_
  intro zp ze s zm args below zmeth zc hx hb hr hml hown hts hlocks ls hl
  have hl : lv_has ls 6 [(0, .long (lN v))] := hl
  refine lv_iconst (v := 0) hx hb dX8_root_0 (by decide) ?_
  refine lv_istore_n (lv' := [(2, .int 0), (0, .long (lN v))]) hx hb dX8_root_1 rfl hl (by decide) rfl (fun ls hl => ?_)
  refine lv_ldc hx hb hown (hts _ u796) dX8_root_2 ?_
  refine lv_istore_n (lv' := [(3, .int 32768), (2, .int 0), (0, .long (lN v))]) hx hb dX8_root_4 rfl hl (by decide) rfl (fun ls hl => ?_)
  have lp : ∀ (n : Nat) (f : Nat), f + 2 ^ n ≤ 65536 → rootF v n f = rt v → ∀ ls : Array Slot, lv_has ls 6 [(3, .int (nI (2 ^ n / 2))), (2, .int (nI f)), (0, .long (lN v))] → W zp l ze (zR 0 0 0) s zm args below zmeth zc s.heap [] 0 0 (MQ below (zQp (some (.int (nI (rt v))))) args s 0 0 (fun _ => False)) (F0 zm 5 ls []) := by
    intro n
    induction n with
    | zero =>
      intro f hf he ls hl
      refine lv_iload_n hx hb dX8_root_5 rfl (lv_at hl 0 rfl) ?_
      refine lv_if_le (tgt := 43) hx hb dX8_root_6 (by decide) (fun h1 => ?_) (fun h1 => ?_)
      · refine lv_iload_n hx hb dX8_root_43 rfl (lv_at hl 1 rfl) ?_
        exact zp_iret hx hb hr hlocks dX8_root_44 (by rw [← he]; rfl)
      · exact absurd (show nI (2 ^ 0 / 2) ≤ 0 by decide) h1
    | succ n ih =>
      intro f hf he ls hl
      have hw := pow_le16 hf
      have hc := cube_lt hw.1
      have hs : nI (2 ^ (n + 1) / 2) = nI (2 ^ n) := by rw [half_pow n]
      have h0 : ¬ nI (2 ^ n) ≤ 0 := nI_nle (Nat.pow_pos (by decide)) (by omega)
      rw [hs] at hl
      have h2 : 2 ^ (n + 1) = 2 ^ n * 2 := Nat.pow_succ 2 n
      refine lv_iload_n hx hb dX8_root_5 rfl (lv_at hl 0 rfl) ?_
      refine lv_if_le (tgt := 43) hx hb dX8_root_6 (by decide) (fun h2 => ?_) (fun h2 => ?_)
      · exact absurd h2 h0
      · refine lv_iload_n hx hb dX8_root_9 rfl (lv_at hl 1 rfl) ?_
        refine lv_iload_n hx hb dX8_root_10 rfl (lv_at hl 0 rfl) ?_
        refine lv_iadd hx hb dX8_root_11 ?_
        refine zf_i (x' := nI (f + 2 ^ n)) (nI_add _ _) ?_
        refine lv_i2l hx hb dX8_root_12 rfl ?_
        refine zf_l (x' := lN (f + 2 ^ n)) (nI_l (by omega)) ?_
        refine lv_lstore (lv' := [(4, .long (lN (f + 2 ^ n))), (3, .int (nI (2 ^ n))), (2, .int (nI f)), (0, .long (lN v))]) hx hb dX8_root_13 hl (by decide) rfl (fun ls hl => ?_)
        refine lv_lload hx hb dX8_root_15 (lv_at hl 0 rfl) ?_
        refine lv_lload hx hb dX8_root_17 (lv_at hl 0 rfl) ?_
        refine lv_lmul hx hb dX8_root_19 ?_
        refine zf_l (x' := lN ((f + 2 ^ n) * (f + 2 ^ n))) (lN_mul _ _) ?_
        refine lv_lload hx hb dX8_root_20 (lv_at hl 0 rfl) ?_
        refine lv_lmul hx hb dX8_root_22 ?_
        refine zf_l (x' := lN ((f + 2 ^ n) * (f + 2 ^ n) * (f + 2 ^ n))) (lN_mul _ _) ?_
        refine lv_lload_n hx hb dX8_root_23 rfl (lv_at hl 3 rfl) ?_
        refine zl_gt (tgt := 34) hx hb dX8_root_24 dX8_root_25 (by decide) (fun h3 => ?_) (fun h3 => ?_)
        · refine lv_iload_n hx hb dX8_root_34 rfl (lv_at hl 2 rfl) ?_
          refine lv_istore_n (lv' := [(2, .int (nI f)), (4, .long (lN (f + 2 ^ n))), (3, .int (nI (2 ^ n))), (0, .long (lN v))]) hx hb dX8_root_35 rfl hl (by decide) rfl (fun ls hl => ?_)
          refine lv_iload_n hx hb dX8_root_36 rfl (lv_at hl 2 rfl) ?_
          refine lv_iconst (v := 2) hx hb dX8_root_37 (by decide) ?_
          refine lv_idiv hx hb dX8_root_38 (by decide) ?_
          refine zf_i (x' := nI (2 ^ n / 2)) (pk_div (by omega) (by decide) (by decide)) ?_
          refine lv_istore_n (lv' := [(3, .int (nI (2 ^ n / 2))), (2, .int (nI f)), (4, .long (lN (f + 2 ^ n))), (0, .long (lN v))]) hx hb dX8_root_39 rfl hl (by decide) rfl (fun ls hl => ?_)
          refine lv_goto (tgt := 5) hx hb dX8_root_40 (by decide) ?_
          exact ih f (by omega) (by have h9 : ¬ (f + 2 ^ n) * (f + 2 ^ n) * (f + 2 ^ n) ≤ v := fun q => (Int64.not_le.mpr h3) ((pk_lLE (by omega) (by omega)).mpr q); rw [← he, rootF, if_neg h9]) ls (lv_sub hl [0, 1, 3] rfl)
        · refine lv_lload hx hb dX8_root_28 (lv_at hl 0 rfl) ?_
          refine lv_l2i hx hb dX8_root_30 rfl ?_
          refine zf_i (x' := nI (f + 2 ^ n)) (lN_i _) ?_
          refine lv_goto (tgt := 35) hx hb dX8_root_31 (by decide) ?_
          refine lv_istore_n (lv' := [(2, .int (nI (f + 2 ^ n))), (4, .long (lN (f + 2 ^ n))), (3, .int (nI (2 ^ n))), (0, .long (lN v))]) hx hb dX8_root_35 rfl hl (by decide) rfl (fun ls hl => ?_)
          refine lv_iload_n hx hb dX8_root_36 rfl (lv_at hl 2 rfl) ?_
          refine lv_iconst (v := 2) hx hb dX8_root_37 (by decide) ?_
          refine lv_idiv hx hb dX8_root_38 (by decide) ?_
          refine zf_i (x' := nI (2 ^ n / 2)) (pk_div (by omega) (by decide) (by decide)) ?_
          refine lv_istore_n (lv' := [(3, .int (nI (2 ^ n / 2))), (2, .int (nI (f + 2 ^ n))), (4, .long (lN (f + 2 ^ n))), (0, .long (lN v))]) hx hb dX8_root_39 rfl hl (by decide) rfl (fun ls hl => ?_)
          refine lv_goto (tgt := 5) hx hb dX8_root_40 (by decide) ?_
          exact ih (f + 2 ^ n) (by omega) (by have h9 : (f + 2 ^ n) * (f + 2 ^ n) * (f + 2 ^ n) ≤ v := (pk_lLE (by omega) (by omega)).mp (Int64.not_lt.mp h3); rw [← he, rootF, if_pos h9]) ls (lv_sub hl [0, 1, 3] rfl)
  exact lp 16 0 (by decide) rfl ls (lv_sub hl [0, 1, 2] rfl)
set_option maxRecDepth 20000 in
theorem c_X8_fineOf (l : Launch) (e0 : Nat) (he : e0 < 1048576) : Pm l yX8_fineOf cX8_fineOf 1 (some FieldType.int) 1 [.int (nI e0)] (some (.int (nI (fN e0)))) := by
  refine Pm.of (by decide) (Nat.le_of_ble_eq_true rfl) ?_
  intro zp ze s zm args below zmeth zc hx hb hr hml hown hts hlocks ls hl
  have hl : lv_has ls 1 [(0, .int (nI e0))] := hl
  refine lv_iload_n hx hb dX8_fineOf_0 rfl (lv_at hl 0 rfl) ?_
  refine lv_i2l hx hb dX8_fineOf_1 rfl ?_
  refine zf_l (x' := lN e0) (nI_l (by omega)) ?_
  refine lv_bipush (v := 27) hx hb dX8_fineOf_2 (by decide) ?_
  refine lv_lshl hx hb dX8_fineOf_4 rfl ?_
  refine zf_l (x' := lN (e0 * 2 ^ 27)) (zlshl_N e0 27 (by decide)) ?_
  refine zp_call hx hb hml hown hts k_X8_43 (c_X8_root l ((e0 * 2 ^ 27)) (by omega)) ⟨by decide, by decide⟩ rfl hl.1 [] rfl (Nat.le_of_ble_eq_true rfl) dX8_fineOf_5 ⟨Nat.le_of_ble_eq_true rfl, Nat.le_of_ble_eq_true rfl⟩ ?_
  exact zp_iret hx hb hr hlocks dX8_fineOf_8 (rfl)
set_option maxRecDepth 20000 in
theorem c_X8_halves (l : Launch) (e0 : Nat) (he : e0 < 1048576) : Pm l yX8_halves cX8_halves 2 (some FieldType.int) 1 [.int (nI e0)] (some (.int (hvI e0))) := by
  refine Pm.of (by decide) (Nat.le_of_ble_eq_true rfl) ?_
  intro zp ze s zm args below zmeth zc hx hb hr hml hown hts hlocks ls hl
  have hl : lv_has ls 2 [(0, .int (nI e0))] := hl
  refine lv_iload_n hx hb dX8_halves_0 rfl (lv_at hl 0 rfl) ?_
  refine lv_i2l hx hb dX8_halves_1 rfl ?_
  refine zf_l (x' := lN e0) (nI_l (by omega)) ?_
  refine zp_call hx hb hml hown hts k_X8_43 (c_X8_root l (e0) (by omega)) ⟨by decide, by decide⟩ rfl hl.1 [] rfl (Nat.le_of_ble_eq_true rfl) dX8_halves_2 ⟨Nat.le_of_ble_eq_true rfl, Nat.le_of_ble_eq_true rfl⟩ ?_
  refine lv_istore_n (lv' := [(1, .int (nI (rt e0))), (0, .int (nI e0))]) hx hb dX8_halves_5 rfl hl (by decide) rfl (fun ls hl => ?_)
  refine lv_iload_n hx hb dX8_halves_6 rfl (lv_at hl 0 rfl) ?_
  refine lv_iload_n hx hb dX8_halves_7 rfl (lv_at hl 0 rfl) ?_
  refine lv_imul hx hb dX8_halves_8 ?_
  refine lv_iload_n hx hb dX8_halves_9 rfl (lv_at hl 0 rfl) ?_
  refine lv_imul hx hb dX8_halves_10 ?_
  refine lv_iload_n hx hb dX8_halves_11 rfl (lv_at hl 1 rfl) ?_
  refine lv_icmp_ne (tgt := 19) hx hb dX8_halves_12 (by decide) (fun h1 => ?_) (fun h1 => ?_)
  · refine lv_iconst (v := (-1)) hx hb dX8_halves_19 (by decide) ?_
    exact zp_iret hx hb hr hlocks dX8_halves_20 ((zif_neg h1 rfl))
  · refine lv_iload_n hx hb dX8_halves_15 rfl (lv_at hl 0 rfl) ?_
    refine lv_goto (tgt := 20) hx hb dX8_halves_16 (by decide) ?_
    exact zp_iret hx hb hr hlocks dX8_halves_20 ((zif_pos h1 rfl))
