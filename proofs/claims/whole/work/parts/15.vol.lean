/-! The class's own pure methods on volumes, in numbers. -/
theorem nb_and1 (v : Nat) : nI v &&& 1 = nI (v % 2) := by
  rw [show (1 : Int32) = nI 1 from rfl, nx_and, Nat.and_one_is_mod]
theorem nb_and2 (v : Nat) : nI v &&& 2 = nI (2 * (v / 2 % 2)) := by
  rw [show (2 : Int32) = nI 2 from rfl, nx_and]
  congr 1
  apply Nat.eq_of_testBit_eq
  intro i
  rw [Nat.testBit_and, show (2 : Nat) = 2 ^ 1 from rfl, Nat.testBit_two_pow, Nat.testBit_two_pow_mul]
  match i with
  | 0 => simp
  | 1 => simp [Nat.testBit, Nat.shiftRight_eq_div_pow]
  | i + 2 =>
    have h1 : v / 2 % 2 < 2 ^ (i + 1) := Nat.lt_of_lt_of_le (Nat.mod_lt _ (by decide)) (Nat.pow_le_pow_right (n := 2) (i := 1) (by decide) (by omega))
    have h2 : (v / 2 % 2).testBit (i + 1) = false := Nat.testBit_lt_two_pow h1
    simp [h2]
theorem nb_and3 (v : Nat) : nI v &&& 3 = nI (v % 4) := by
  rw [show (3 : Int32) = nI 3 from rfl, nx_and, show (3 : Nat) = 2 ^ 2 - 1 from rfl, Nat.and_two_pow_sub_one_eq_mod]
theorem mv_count {v : Nat} (h : v < 262144) : m_X5_countOf (nI v) = nI (v / 4) := pk_shrN (by omega) _ 2 (by decide)
theorem mv_kind (v : Nat) : m_X5_kindOf (nI v) = nI (v % 4) := nb_and3 v
theorem mv_below (v : Nat) : m_X5_isBelow (nI v) = isB v := by
  unfold m_X5_isBelow isB
  rw [nb_and2]
  have h : v / 2 % 2 = 0 ∨ v / 2 % 2 = 1 := by omega
  rcases h with h | h <;> rw [h] <;> decide
theorem mv_eig {v : Nat} (h : v < 262144) : m_X5_eighthsOf (nI v) = nI (eig v) := by
  unfold m_X5_eighthsOf eig
  rw [nb_and1, mv_count h]
  have h2 : v % 2 = 0 ∨ v % 2 = 1 := by omega
  rcases h2 with h2 | h2 <;> rw [h2]
  · rw [if_pos (by decide), if_neg (by decide), show (8 : Int32) = nI 8 from rfl, pk_mul]
  · rw [if_neg (by decide), if_pos rfl]
theorem mv_signed {v : Nat} (h : v < 262144) : m_X5_signedOf (nI v) = sgI v := by
  unfold m_X5_signedOf sgI
  rw [mv_below, mv_eig h]
theorem mv_above {v : Nat} (h : v < 262144) : m_X5_isAboveZero (nI v) = (!isB v && decide (0 < v / 4)) := by
  unfold m_X5_isAboveZero
  rw [mv_below, mv_count h]
  cases isB v with
  | true => rfl
  | false =>
    rw [if_neg (by decide)]
    by_cases h0 : 0 < v / 4
    · rw [if_neg (nI_nle h0 (by omega)), decide_eq_true h0]; rfl
    · rw [show v / 4 = 0 by omega]; rfl
theorem mv_isCount {n : Nat} (h : n < 2 ^ 63) : m_X5_isCount (lN n) = decide (n ≤ 65535) := by
  unfold m_X5_isCount
  rw [if_neg (lN_nneg h)]
  by_cases h2 : n ≤ 65535
  · rw [if_neg (show ¬ (65535 : Int64) < lN n from fun q => absurd ((pk_lLT (a := 65535) (by decide) h).mp q) (by omega)), decide_eq_true h2]
  · rw [if_pos (show (65535 : Int64) < lN n from (pk_lLT (a := 65535) (by decide) h).mpr (by omega)), decide_eq_false h2]
theorem mv_told (c k : Nat) : m_X5_told (nI c) (nI k) = nI (4 * c + k) := by
  unfold m_X5_told
  rw [show (4 : Int32) = nI 4 from rfl, pk_mul, nI_add]
/-- a volume by its three parts -/
theorem mk_of (v : Nat) : mk (v / 4) (isE v) (isB v) = v := by
  unfold mk isE isB
  have h : v % 4 = 0 ∨ v % 4 = 1 ∨ v % 4 = 2 ∨ v % 4 = 3 := by omega
  rcases h with h | h | h | h
  · rw [show v / 2 % 2 = 0 by omega, show v % 2 = 0 by omega]; simp; omega
  · rw [show v / 2 % 2 = 0 by omega, show v % 2 = 1 by omega]; simp; omega
  · rw [show v / 2 % 2 = 1 by omega, show v % 2 = 0 by omega]; simp; omega
  · rw [show v / 2 % 2 = 1 by omega, show v % 2 = 1 by omega]; simp; omega
theorem mk_tell (c : Nat) (e b : Bool) : 4 * c + ((if b = true then 2 else 0) + (if e = true then 1 else 0)) = mk c e b := by unfold mk; omega
theorem mv_b2 (v : Nat) : nI v &&& 2 = nI (if isB v = true then 2 else 0) := by
  rw [nb_and2]
  unfold isB
  have h : v / 2 % 2 = 0 ∨ v / 2 % 2 = 1 := by omega
  rcases h with h | h <;> rw [h] <;> rfl
theorem mv_opp {v : Nat} (h : v < 262144) : m_X5_oppositeOf (nI v) = nI (oppN v) := by
  unfold m_X5_oppositeOf
  rw [show (2 : Int32) = nI 2 from rfl, nx_xor]
  congr 1
  unfold oppN
  have e0 := mk_of v
  have key : ∀ (c : Nat) (e b : Bool), mk c e b ^^^ 2 = mk c e (!b) := by
    intro c e b
    have h4 : mk c e b = 2 ^ 2 * c + ((if b = true then 2 else 0) + (if e = true then 1 else 0)) := (mk_tell c e b).symm
    have h5 : mk c e (!b) = 2 ^ 2 * c + ((if (!b) = true then 2 else 0) + (if e = true then 1 else 0)) := (mk_tell c e (!b)).symm
    apply Nat.eq_of_testBit_eq
    intro i
    rw [Nat.testBit_xor, h4, h5]
    by_cases hi : i < 2
    · rw [Nat.testBit_two_pow_mul_add _ (by cases b <;> cases e <;> decide), Nat.testBit_two_pow_mul_add _ (by cases b <;> cases e <;> decide), if_pos hi, if_pos hi]
      match i, hi with
      | 0, _ => cases b <;> cases e <;> decide
      | 1, _ => cases b <;> cases e <;> decide
    · rw [Nat.testBit_two_pow_mul_add _ (by cases b <;> cases e <;> decide), Nat.testBit_two_pow_mul_add _ (by cases b <;> cases e <;> decide), if_neg hi, if_neg hi, show (2 : Nat) = 2 ^ 1 from rfl, Nat.testBit_two_pow, decide_eq_false (by omega)]
      simp
  calc v ^^^ 2 = mk (v / 4) (isE v) (isB v) ^^^ 2 := by rw [e0]
    _ = _ := key _ _ _
def e8N (v : Nat) : Nat := mk (eig v) false (isB v)
def d8N (v : Nat) : Nat := mk (eig v / 8) true (isB v)
theorem mv_e8 {v : Nat} (h : v < 262144) : m_X5_eightfoldOf (nI v) = if eig v ≤ 65535 then nI (e8N v) else (-1) := by
  have hl := eig_lt h
  have key : ∀ c : Nat, c = eig v → (if (m_X5_isCount (Int32.toInt64 (nI c))) = true then (m_X5_told (nI c) (nI v &&& 2)) else (-1)) = if eig v ≤ 65535 then nI (e8N v) else (-1) := by
    intro c hc
    subst hc
    rw [nI_l (by omega), mv_isCount (by omega), mv_b2, mv_told]
    by_cases h2 : eig v ≤ 65535
    · rw [if_pos h2, if_pos (decide_eq_true h2)]
      rfl
    · rw [if_neg h2, if_neg (by simpa using h2)]
  unfold m_X5_eightfoldOf
  rw [nb_and1, mv_count h]
  have h2 : v % 2 = 0 ∨ v % 2 = 1 := by omega
  rcases h2 with h2 | h2
  · rw [if_pos (by rw [h2]; rfl), show (8 : Int32) = nI 8 from rfl, pk_mul]
    exact key _ (by unfold eig; rw [if_neg (by omega)])
  · rw [if_neg (by rw [h2]; decide)]
    exact key _ (by unfold eig; rw [if_pos h2])
theorem nb_or1 {k : Nat} (h : k = 0 ∨ k = 2) : nI k ||| 1 = nI (k + 1) := by rcases h with rfl | rfl <;> decide
theorem mv_d8 {v : Nat} (h : v < 262144) : m_X5_eighthOf (nI v) = if eig v % 8 = 0 then nI (d8N v) else (-1) := by
  unfold m_X5_eighthOf
  rw [nb_and1, mv_count h, mv_b2, mv_kind, show (8 : Int32) = nI 8 from rfl, pk_rem (by omega) (by decide) (by decide), pk_div (by omega) (by decide) (by decide), nb_or1 (k := if isB v = true then 2 else 0) (by split <;> simp), mv_told, mv_told]
  have h2 : v % 2 = 0 ∨ v % 2 = 1 := by omega
  rcases h2 with h2 | h2
  · have e1 : eig v = 8 * (v / 4) := by unfold eig; rw [if_neg (by omega)]
    rw [if_pos (show nI (v % 2) = 0 by rw [h2]; rfl), if_pos (show eig v % 8 = 0 by rw [e1]; exact Nat.mul_mod_right 8 _)]
    unfold d8N
    rw [e1, Nat.mul_div_cancel_left _ (by decide)]
    rfl
  · have e1 : eig v = v / 4 := by unfold eig; rw [if_pos h2]
    rw [if_neg (by rw [h2]; decide), e1]
    by_cases h3 : v / 4 % 8 = 0
    · rw [if_pos (by rw [h3]; rfl), if_pos h3]
      congr 1
      unfold d8N mk isB
      rw [e1]
      have h4 : v / 2 % 2 = 0 ∨ v / 2 % 2 = 1 := by omega
      rcases h4 with h4 | h4 <;> rw [h4] <;> simp <;> omega
    · rw [if_neg (nI_ne0 (by omega) (by omega)), if_neg h3]
def rdV (e : Nat) (b : Bool) : Nat := mk (rdC e) (rdE e) b
theorem mv_red {e0 : Nat} (h : e0 < 2 ^ 62) (b : Bool) : m_X5_reduced (lN e0) (nI (if b = true then 2 else 0)) = if rdC e0 ≤ 65535 then nI (rdV e0 b) else (-1) := by
  unfold m_X5_reduced rdV rdC rdE
  rw [show (8 : Int64) = lN 8 from rfl, pk_lRem (by omega) (by decide) (by decide), pk_lDiv (by omega) (by decide) (by decide), mv_isCount (by omega), mv_isCount (by omega), lN_i, lN_i, nb_or1 (k := if b = true then 2 else 0) (by cases b <;> simp), mv_told, mv_told]
  by_cases h2 : e0 % 8 = 0
  · rw [if_pos (by rw [h2]; rfl), if_pos h2, if_pos h2]
    by_cases h3 : e0 / 8 ≤ 65535
    · rw [if_pos h3, if_pos (decide_eq_true h3)]
      rfl
    · rw [if_neg h3, if_neg (by simpa using h3)]
  · rw [if_neg (show ¬ lN (e0 % 8) = 0 from fun q => h2 ((pk_lEQ (b := 0) (by omega) (by decide)).mp q)), if_neg h2, if_neg h2]
    by_cases h3 : e0 ≤ 65535
    · rw [if_pos h3, if_pos (decide_eq_true h3)]
      rfl
    · rw [if_neg h3, if_neg (by simpa using h3)]
theorem mv_sum {v w : Nat} (hv : v < 262144) (hw : w < 262144) : m_X5_sumOf (nI v) (nI w) = if rdC (eig v + eig w) ≤ 65535 then nI (rdV (eig v + eig w) false) else (-1) := by
  unfold m_X5_sumOf
  have h1 := eig_lt hv
  have h2 := eig_lt hw
  rw [mv_eig hv, mv_eig hw, nI_l (by omega), nI_l (by omega), lN_add]
  exact mv_red (by omega) false
theorem mv_xor2 (v w : Nat) : (nI v ^^^ nI w) &&& 2 = nI (if (isB v != isB w) = true then 2 else 0) := by
  have h : (nI v ^^^ nI w) &&& 2 = (nI v &&& 2) ^^^ (nI w &&& 2) := by
    apply Int32.toBitVec_inj.mp
    rw [Int32.toBitVec_and, Int32.toBitVec_xor, Int32.toBitVec_xor, Int32.toBitVec_and, Int32.toBitVec_and]
    apply BitVec.eq_of_getLsbD_eq
    intro i hi
    simp only [BitVec.getLsbD_and, BitVec.getLsbD_xor]
    cases (nI v).toBitVec.getLsbD i <;> cases (nI w).toBitVec.getLsbD i <;> cases (2 : Int32).toBitVec.getLsbD i <;> rfl
  rw [h, mv_b2, mv_b2]
  cases isB v <;> cases isB w <;> decide
theorem mv_product {v w : Nat} (hv : v < 262144) (hw : w < 262144) : m_X5_productOf (nI v) (nI w) = if eig v * eig w % 8 = 0 ∧ rdC (eig v * eig w / 8) ≤ 65535 then nI (rdV (eig v * eig w / 8) (isB v != isB w)) else (-1) := by
  unfold m_X5_productOf
  have h1 := eig20 hv
  have h2 := eig20 hw
  have h3 := prod_lt h1 h2
  rw [mv_eig hv, mv_eig hw, nI_l (by omega), nI_l (by omega), lN_mul, show (8 : Int64) = lN 8 from rfl, pk_lRem (by omega) (by decide) (by decide), pk_lDiv (by omega) (by decide) (by decide), mv_xor2, mv_red (by omega)]
  by_cases h4 : eig v * eig w % 8 = 0
  · rw [if_pos (by rw [h4]; rfl)]
    by_cases h5 : rdC (eig v * eig w / 8) ≤ 65535
    · rw [if_pos h5, if_pos ⟨h4, h5⟩]
    · rw [if_neg h5, if_neg (fun q => h5 q.2)]
  · rw [if_neg (show ¬ lN (eig v * eig w % 8) = 0 from fun q => h4 ((pk_lEQ (b := 0) (by omega) (by decide)).mp q)), if_neg (fun q => h4 q.1)]
